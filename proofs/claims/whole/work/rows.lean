section
-- ===== PART A: goes FIRST, ahead of the names: the tables' words, and 'selects' of the private methods out of them =====
/-- a private method of a class that the tables say can be made, by its rows of tables_1 -/
def lw_okq (q : MethodName × Nat) : Prop := (q.1.cls ≠ "java/lang/invoke/MethodHandle" ∧ q.1.cls ≠ "java/lang/invoke/VarHandle") ∧ Cond.instantiable q.1.cls q.2 ∈ tables_1 ∧ Cond.privateMethod q.1 ∈ tables_1 ∧ Cond.instanceMethod q.1 ∈ tables_1
theorem lw_p0 : lw_okq (⟨"BuildEngine$Tape", "tellsNoKey", "(II)Z"⟩, 2) := ⟨⟨by decide +kernel, by decide +kernel⟩, List.mem_of_getElem? (i := 163) (by decide +kernel), List.mem_of_getElem? (i := 297) (by decide +kernel), List.mem_of_getElem? (i := 298) (by decide +kernel)⟩
theorem lw_p1 : lw_okq (⟨"BuildEngine$Target", "copyRule", "(LBuildEngine$Target;)V"⟩, 7) := ⟨⟨by decide +kernel, by decide +kernel⟩, List.mem_of_getElem? (i := 36) (by decide +kernel), List.mem_of_getElem? (i := 338) (by decide +kernel), List.mem_of_getElem? (i := 339) (by decide +kernel)⟩
theorem lw_p2 : lw_okq (⟨"BuildEngine$Builder", "buildTarget", "(II)V"⟩, 11) := ⟨⟨by decide +kernel, by decide +kernel⟩, List.mem_of_getElem? (i := 21) (by decide +kernel), List.mem_of_getElem? (i := 381) (by decide +kernel), List.mem_of_getElem? (i := 382) (by decide +kernel)⟩
theorem lw_p3 : lw_okq (⟨"BuildEngine$Builder", "isStillSame", "(LBuildEngine$Target;I)Z"⟩, 11) := ⟨⟨by decide +kernel, by decide +kernel⟩, List.mem_of_getElem? (i := 21) (by decide +kernel), List.mem_of_getElem? (i := 391) (by decide +kernel), List.mem_of_getElem? (i := 392) (by decide +kernel)⟩
theorem lw_p4 : lw_okq (⟨"BuildEngine$Builder", "runToEnd", "(ILBuildEngine$Target;I)V"⟩, 11) := ⟨⟨by decide +kernel, by decide +kernel⟩, List.mem_of_getElem? (i := 21) (by decide +kernel), List.mem_of_getElem? (i := 416) (by decide +kernel), List.mem_of_getElem? (i := 417) (by decide +kernel)⟩
theorem lw_p5 : lw_okq (⟨"BuildEngine$Builder", "runOnce", "(ILBuildEngine$Target;)LBuildEngine$Result;"⟩, 11) := ⟨⟨by decide +kernel, by decide +kernel⟩, List.mem_of_getElem? (i := 21) (by decide +kernel), List.mem_of_getElem? (i := 420) (by decide +kernel), List.mem_of_getElem? (i := 421) (by decide +kernel)⟩
theorem lw_p6 : lw_okq (⟨"BuildEngine$Builder", "resultIfDone", "(I)LBuildEngine$Result;"⟩, 11) := ⟨⟨by decide +kernel, by decide +kernel⟩, List.mem_of_getElem? (i := 21) (by decide +kernel), List.mem_of_getElem? (i := 432) (by decide +kernel), List.mem_of_getElem? (i := 433) (by decide +kernel)⟩
theorem lw_p7 : lw_okq (⟨"BuildEngine$Builder", "noteDone", "(I)V"⟩, 11) := ⟨⟨by decide +kernel, by decide +kernel⟩, List.mem_of_getElem? (i := 21) (by decide +kernel), List.mem_of_getElem? (i := 465) (by decide +kernel), List.mem_of_getElem? (i := 466) (by decide +kernel)⟩
theorem lw_p8 : lw_okq (⟨"BuildEngine$World", "deepenAll", "()Z"⟩, 4) := ⟨⟨by decide +kernel, by decide +kernel⟩, List.mem_of_getElem? (i := 27) (by decide +kernel), List.mem_of_getElem? (i := 582) (by decide +kernel), List.mem_of_getElem? (i := 583) (by decide +kernel)⟩
theorem lw_p9 : lw_okq (⟨"BuildEngine$World", "depthByTrace", "(LBuildEngine$Target;)I"⟩, 4) := ⟨⟨by decide +kernel, by decide +kernel⟩, List.mem_of_getElem? (i := 27) (by decide +kernel), List.mem_of_getElem? (i := 586) (by decide +kernel), List.mem_of_getElem? (i := 587) (by decide +kernel)⟩
theorem lw_p10 : lw_okq (⟨"BuildEngine$World", "hasSameBelow", "(I)Z"⟩, 4) := ⟨⟨by decide +kernel, by decide +kernel⟩, List.mem_of_getElem? (i := 27) (by decide +kernel), List.mem_of_getElem? (i := 610) (by decide +kernel), List.mem_of_getElem? (i := 611) (by decide +kernel)⟩
theorem lw_p11 : lw_okq (⟨"BuildEngine$World", "isUpToDate", "(LBuildEngine$Target;)Z"⟩, 4) := ⟨⟨by decide +kernel, by decide +kernel⟩, List.mem_of_getElem? (i := 27) (by decide +kernel), List.mem_of_getElem? (i := 623) (by decide +kernel), List.mem_of_getElem? (i := 624) (by decide +kernel)⟩
theorem lw_p12 : lw_okq (⟨"BuildEngine", "rowOf", "(I)LBuildEngine$Row;"⟩, 7) := ⟨⟨by decide +kernel, by decide +kernel⟩, List.mem_of_getElem? (i := 13) (by decide +kernel), List.mem_of_getElem? (i := 658) (by decide +kernel), List.mem_of_getElem? (i := 659) (by decide +kernel)⟩
theorem lw_p13 : lw_okq (⟨"BuildEngineModel", "fault", "()I"⟩, 29) := ⟨⟨by decide +kernel, by decide +kernel⟩, List.mem_of_getElem? (i := 720) (by decide +kernel), List.mem_of_getElem? (i := 857) (by decide +kernel), List.mem_of_getElem? (i := 858) (by decide +kernel)⟩
theorem lw_p14 : lw_okq (⟨"BuildEngineModel", "isFigure", "(I)Z"⟩, 29) := ⟨⟨by decide +kernel, by decide +kernel⟩, List.mem_of_getElem? (i := 720) (by decide +kernel), List.mem_of_getElem? (i := 867) (by decide +kernel), List.mem_of_getElem? (i := 868) (by decide +kernel)⟩
theorem lw_p15 : lw_okq (⟨"BuildEngineModel", "traceAt", "(I)I"⟩, 29) := ⟨⟨by decide +kernel, by decide +kernel⟩, List.mem_of_getElem? (i := 720) (by decide +kernel), List.mem_of_getElem? (i := 873) (by decide +kernel), List.mem_of_getElem? (i := 874) (by decide +kernel)⟩
def lw_privs_1 : List (MethodName × Nat) := [(⟨"BuildEngine$Tape", "tellsNoKey", "(II)Z"⟩, 2), (⟨"BuildEngine$Target", "copyRule", "(LBuildEngine$Target;)V"⟩, 7), (⟨"BuildEngine$Builder", "buildTarget", "(II)V"⟩, 11), (⟨"BuildEngine$Builder", "isStillSame", "(LBuildEngine$Target;I)Z"⟩, 11), (⟨"BuildEngine$Builder", "runToEnd", "(ILBuildEngine$Target;I)V"⟩, 11), (⟨"BuildEngine$Builder", "runOnce", "(ILBuildEngine$Target;)LBuildEngine$Result;"⟩, 11), (⟨"BuildEngine$Builder", "resultIfDone", "(I)LBuildEngine$Result;"⟩, 11), (⟨"BuildEngine$Builder", "noteDone", "(I)V"⟩, 11), (⟨"BuildEngine$World", "deepenAll", "()Z"⟩, 4), (⟨"BuildEngine$World", "depthByTrace", "(LBuildEngine$Target;)I"⟩, 4), (⟨"BuildEngine$World", "hasSameBelow", "(I)Z"⟩, 4), (⟨"BuildEngine$World", "isUpToDate", "(LBuildEngine$Target;)Z"⟩, 4), (⟨"BuildEngine", "rowOf", "(I)LBuildEngine$Row;"⟩, 7), (⟨"BuildEngineModel", "fault", "()I"⟩, 29), (⟨"BuildEngineModel", "isFigure", "(I)Z"⟩, 29), (⟨"BuildEngineModel", "traceAt", "(I)I"⟩, 29)]
theorem lw_r1 : ∀ q ∈ lw_privs_1, lw_okq q := List.forall_mem_cons.mpr ⟨lw_p0, List.forall_mem_cons.mpr ⟨lw_p1, List.forall_mem_cons.mpr ⟨lw_p2, List.forall_mem_cons.mpr ⟨lw_p3, List.forall_mem_cons.mpr ⟨lw_p4, List.forall_mem_cons.mpr ⟨lw_p5, List.forall_mem_cons.mpr ⟨lw_p6, List.forall_mem_cons.mpr ⟨lw_p7, List.forall_mem_cons.mpr ⟨lw_p8, List.forall_mem_cons.mpr ⟨lw_p9, List.forall_mem_cons.mpr ⟨lw_p10, List.forall_mem_cons.mpr ⟨lw_p11, List.forall_mem_cons.mpr ⟨lw_p12, List.forall_mem_cons.mpr ⟨lw_p13, List.forall_mem_cons.mpr ⟨lw_p14, List.forall_mem_cons.mpr ⟨lw_p15, fun _ h => absurd h List.not_mem_nil⟩⟩⟩⟩⟩⟩⟩⟩⟩⟩⟩⟩⟩⟩⟩⟩
theorem lw_p16 : lw_okq (⟨"BuildEngineModel", "ruled", "(II)I"⟩, 29) := ⟨⟨by decide +kernel, by decide +kernel⟩, List.mem_of_getElem? (i := 720) (by decide +kernel), List.mem_of_getElem? (i := 881) (by decide +kernel), List.mem_of_getElem? (i := 882) (by decide +kernel)⟩
theorem lw_p17 : lw_okq (⟨"BuildEngineModel", "built", "(IZ)I"⟩, 29) := ⟨⟨by decide +kernel, by decide +kernel⟩, List.mem_of_getElem? (i := 720) (by decide +kernel), List.mem_of_getElem? (i := 897) (by decide +kernel), List.mem_of_getElem? (i := 898) (by decide +kernel)⟩
theorem lw_p18 : lw_okq (⟨"BuildEngineModel", "builds", "(I)V"⟩, 29) := ⟨⟨by decide +kernel, by decide +kernel⟩, List.mem_of_getElem? (i := 720) (by decide +kernel), List.mem_of_getElem? (i := 901) (by decide +kernel), List.mem_of_getElem? (i := 902) (by decide +kernel)⟩
theorem lw_p19 : lw_okq (⟨"BuildEngineModel", "fails", "(IIII)I"⟩, 29) := ⟨⟨by decide +kernel, by decide +kernel⟩, List.mem_of_getElem? (i := 720) (by decide +kernel), List.mem_of_getElem? (i := 905) (by decide +kernel), List.mem_of_getElem? (i := 906) (by decide +kernel)⟩
theorem lw_p20 : lw_okq (⟨"BuildEngineModel", "traced", "(I)I"⟩, 29) := ⟨⟨by decide +kernel, by decide +kernel⟩, List.mem_of_getElem? (i := 720) (by decide +kernel), List.mem_of_getElem? (i := 909) (by decide +kernel), List.mem_of_getElem? (i := 910) (by decide +kernel)⟩
theorem lw_p21 : lw_okq (⟨"BuildEngineModel", "isAsSeen", "(I)Z"⟩, 29) := ⟨⟨by decide +kernel, by decide +kernel⟩, List.mem_of_getElem? (i := 720) (by decide +kernel), List.mem_of_getElem? (i := 913) (by decide +kernel), List.mem_of_getElem? (i := 914) (by decide +kernel)⟩
theorem lw_p22 : lw_okq (⟨"BuildEngineModel", "isDone", "(I)Z"⟩, 29) := ⟨⟨by decide +kernel, by decide +kernel⟩, List.mem_of_getElem? (i := 720) (by decide +kernel), List.mem_of_getElem? (i := 917) (by decide +kernel), List.mem_of_getElem? (i := 918) (by decide +kernel)⟩
theorem lw_p23 : lw_okq (⟨"BuildEngineModel", "has", "(I)I"⟩, 29) := ⟨⟨by decide +kernel, by decide +kernel⟩, List.mem_of_getElem? (i := 720) (by decide +kernel), List.mem_of_getElem? (i := 921) (by decide +kernel), List.mem_of_getElem? (i := 922) (by decide +kernel)⟩
theorem lw_p24 : lw_okq (⟨"BuildEngineModel", "runs", "(I)I"⟩, 29) := ⟨⟨by decide +kernel, by decide +kernel⟩, List.mem_of_getElem? (i := 720) (by decide +kernel), List.mem_of_getElem? (i := 925) (by decide +kernel), List.mem_of_getElem? (i := 926) (by decide +kernel)⟩
theorem lw_p25 : lw_okq (⟨"BuildEngineModel", "goes", "(I)I"⟩, 29) := ⟨⟨by decide +kernel, by decide +kernel⟩, List.mem_of_getElem? (i := 720) (by decide +kernel), List.mem_of_getElem? (i := 929) (by decide +kernel), List.mem_of_getElem? (i := 930) (by decide +kernel)⟩
theorem lw_p26 : lw_okq (⟨"BuildEngineModel", "notes", "(II)V"⟩, 29) := ⟨⟨by decide +kernel, by decide +kernel⟩, List.mem_of_getElem? (i := 720) (by decide +kernel), List.mem_of_getElem? (i := 933) (by decide +kernel), List.mem_of_getElem? (i := 934) (by decide +kernel)⟩
theorem lw_p27 : lw_okq (⟨"BuildEngineModel", "isOfRing", "(I)Z"⟩, 29) := ⟨⟨by decide +kernel, by decide +kernel⟩, List.mem_of_getElem? (i := 720) (by decide +kernel), List.mem_of_getElem? (i := 940) (by decide +kernel), List.mem_of_getElem? (i := 941) (by decide +kernel)⟩
theorem lw_p28 : lw_okq (⟨"BuildEngineModel", "finishes", "(I)V"⟩, 29) := ⟨⟨by decide +kernel, by decide +kernel⟩, List.mem_of_getElem? (i := 720) (by decide +kernel), List.mem_of_getElem? (i := 944) (by decide +kernel), List.mem_of_getElem? (i := 945) (by decide +kernel)⟩
theorem lw_p29 : lw_okq (⟨"BuildEngineModel", "manyDone", "()I"⟩, 29) := ⟨⟨by decide +kernel, by decide +kernel⟩, List.mem_of_getElem? (i := 720) (by decide +kernel), List.mem_of_getElem? (i := 948) (by decide +kernel), List.mem_of_getElem? (i := 949) (by decide +kernel)⟩
theorem lw_p30 : lw_okq (⟨"BuildEngineModel", "toldOf", "(I)I"⟩, 29) := ⟨⟨by decide +kernel, by decide +kernel⟩, List.mem_of_getElem? (i := 720) (by decide +kernel), List.mem_of_getElem? (i := 976) (by decide +kernel), List.mem_of_getElem? (i := 977) (by decide +kernel)⟩
theorem lw_p31 : lw_okq (⟨"BuildEngineModel", "causeOf", "(II)I"⟩, 29) := ⟨⟨by decide +kernel, by decide +kernel⟩, List.mem_of_getElem? (i := 720) (by decide +kernel), List.mem_of_getElem? (i := 986) (by decide +kernel), List.mem_of_getElem? (i := 987) (by decide +kernel)⟩
def lw_privs_2 : List (MethodName × Nat) := [(⟨"BuildEngineModel", "ruled", "(II)I"⟩, 29), (⟨"BuildEngineModel", "built", "(IZ)I"⟩, 29), (⟨"BuildEngineModel", "builds", "(I)V"⟩, 29), (⟨"BuildEngineModel", "fails", "(IIII)I"⟩, 29), (⟨"BuildEngineModel", "traced", "(I)I"⟩, 29), (⟨"BuildEngineModel", "isAsSeen", "(I)Z"⟩, 29), (⟨"BuildEngineModel", "isDone", "(I)Z"⟩, 29), (⟨"BuildEngineModel", "has", "(I)I"⟩, 29), (⟨"BuildEngineModel", "runs", "(I)I"⟩, 29), (⟨"BuildEngineModel", "goes", "(I)I"⟩, 29), (⟨"BuildEngineModel", "notes", "(II)V"⟩, 29), (⟨"BuildEngineModel", "isOfRing", "(I)Z"⟩, 29), (⟨"BuildEngineModel", "finishes", "(I)V"⟩, 29), (⟨"BuildEngineModel", "manyDone", "()I"⟩, 29), (⟨"BuildEngineModel", "toldOf", "(I)I"⟩, 29), (⟨"BuildEngineModel", "causeOf", "(II)I"⟩, 29)]
theorem lw_r2 : ∀ q ∈ lw_privs_2, lw_okq q := List.forall_mem_cons.mpr ⟨lw_p16, List.forall_mem_cons.mpr ⟨lw_p17, List.forall_mem_cons.mpr ⟨lw_p18, List.forall_mem_cons.mpr ⟨lw_p19, List.forall_mem_cons.mpr ⟨lw_p20, List.forall_mem_cons.mpr ⟨lw_p21, List.forall_mem_cons.mpr ⟨lw_p22, List.forall_mem_cons.mpr ⟨lw_p23, List.forall_mem_cons.mpr ⟨lw_p24, List.forall_mem_cons.mpr ⟨lw_p25, List.forall_mem_cons.mpr ⟨lw_p26, List.forall_mem_cons.mpr ⟨lw_p27, List.forall_mem_cons.mpr ⟨lw_p28, List.forall_mem_cons.mpr ⟨lw_p29, List.forall_mem_cons.mpr ⟨lw_p30, List.forall_mem_cons.mpr ⟨lw_p31, fun _ h => absurd h List.not_mem_nil⟩⟩⟩⟩⟩⟩⟩⟩⟩⟩⟩⟩⟩⟩⟩⟩
theorem lw_p32 : lw_okq (⟨"BuildEngineModel", "amiss", "(II)I"⟩, 29) := ⟨⟨by decide +kernel, by decide +kernel⟩, List.mem_of_getElem? (i := 720) (by decide +kernel), List.mem_of_getElem? (i := 1006) (by decide +kernel), List.mem_of_getElem? (i := 1007) (by decide +kernel)⟩
theorem lw_p33 : lw_okq (⟨"BuildEngineModel", "isTraced", "(II)Z"⟩, 29) := ⟨⟨by decide +kernel, by decide +kernel⟩, List.mem_of_getElem? (i := 720) (by decide +kernel), List.mem_of_getElem? (i := 1018) (by decide +kernel), List.mem_of_getElem? (i := 1019) (by decide +kernel)⟩
theorem lw_p34 : lw_okq (⟨"BuildEngineModel", "having", "(I)I"⟩, 29) := ⟨⟨by decide +kernel, by decide +kernel⟩, List.mem_of_getElem? (i := 720) (by decide +kernel), List.mem_of_getElem? (i := 1047) (by decide +kernel), List.mem_of_getElem? (i := 1048) (by decide +kernel)⟩
def lw_privs_3 : List (MethodName × Nat) := [(⟨"BuildEngineModel", "amiss", "(II)I"⟩, 29), (⟨"BuildEngineModel", "isTraced", "(II)Z"⟩, 29), (⟨"BuildEngineModel", "having", "(I)I"⟩, 29)]
theorem lw_r3 : ∀ q ∈ lw_privs_3, lw_okq q := List.forall_mem_cons.mpr ⟨lw_p32, List.forall_mem_cons.mpr ⟨lw_p33, List.forall_mem_cons.mpr ⟨lw_p34, fun _ h => absurd h List.not_mem_nil⟩⟩⟩
def lw_privs : List (MethodName × Nat) := lw_privs_1 ++ (lw_privs_2 ++ (lw_privs_3))
def lw_tbl : List Cond := k2_sels lw_privs ++ tables_1
theorem lw_privs_ok : ∀ q ∈ lw_privs, lw_okq q := by
  show ∀ q ∈ lw_privs_1 ++ (lw_privs_2 ++ (lw_privs_3)), lw_okq q
  exact List.forall_mem_append.mpr ⟨lw_r1, List.forall_mem_append.mpr ⟨lw_r2, lw_r3⟩⟩
end
section
def RX0 : String := "BuildEngine$Builder"
def TX0 : u_T := fun k => match k with
  | 0 => ("BuildEngine$Builder", "world", "LBuildEngine$World;", true)
  | 1 => ("BuildEngine$Builder", "doneKeys", "[I", true)
  | 2 => ("BuildEngine$Builder", "doneCount", "I", false)
  | 3 => ("BuildEngine$Builder", "done", "I", false)
  | 4 => ("BuildEngine$Builder", "open", "I", false)
  | 5 => ("BuildEngine$Builder", "stoppedBy", "I", false)
  | 6 => ("BuildEngine$Builder", "starts", "I", false)
  | 7 => ("BuildEngine$Builder", "putOffs", "I", false)
  | 8 => ("BuildEngine$Builder", "spared", "I", false)
  | 9 => ("BuildEngine$Builder", "cuts", "I", false)
  | _ => ("BuildEngine$Builder", "wanted", "I", false)
def tyX0 : Nat → FieldType := fun k => match k with
  | 0 => .object "BuildEngine$World"
  | 1 => .array .int
  | 2 => .int
  | 3 => .int
  | 4 => .int
  | 5 => .int
  | 6 => .int
  | 7 => .int
  | 8 => .int
  | 9 => .int
  | _ => .int
abbrev wsX00 : List Cond := u_ws RX0 TX0 11
theorem nmX0 : ∀ a, a < 11 → ∀ b, b < 11 → a ≠ b → (TX0 a).2.1 ≠ (TX0 b).2.1 := by decide +kernel
theorem tyX0_ok : ∀ k, k < 11 → parseFieldDescriptor (TX0 k).2.2.1 = some (tyX0 k) := by decide +kernel
abbrev cX0_init : ByteArray := prog_2_method_1_code
def yX0_init : MethodName := ⟨RX0, "<init>", "()V"⟩
abbrev cX0_forgetBuild : ByteArray := prog_2_method_2_code
def yX0_forgetBuild : MethodName := ⟨RX0, "forgetBuild", "()V"⟩
abbrev cX0_doneAt : ByteArray := prog_2_method_3_code
def yX0_doneAt : MethodName := ⟨RX0, "doneAt", "(I)I"⟩
abbrev cX0_startsFor : ByteArray := prog_2_method_4_code
def yX0_startsFor : MethodName := ⟨RX0, "startsFor", "(I)I"⟩
abbrev cX0_buildEach : ByteArray := prog_2_method_5_code
def yX0_buildEach : MethodName := ⟨RX0, "buildEach", "(IZ)I"⟩
abbrev cX0_buildTarget : ByteArray := prog_2_method_6_code
def yX0_buildTarget : MethodName := ⟨RX0, "buildTarget", "(II)V"⟩
abbrev cX0_noteDone : ByteArray := prog_2_method_7_code
def yX0_noteDone : MethodName := ⟨RX0, "noteDone", "(I)V"⟩
abbrev cX0_isStillSame : ByteArray := prog_2_method_8_code
def yX0_isStillSame : MethodName := ⟨RX0, "isStillSame", "(LBuildEngine$Target;I)Z"⟩
abbrev cX0_runToEnd : ByteArray := prog_2_method_9_code
def yX0_runToEnd : MethodName := ⟨RX0, "runToEnd", "(ILBuildEngine$Target;I)V"⟩
abbrev cX0_runOnce : ByteArray := prog_2_method_10_code
def yX0_runOnce : MethodName := ⟨RX0, "runOnce", "(ILBuildEngine$Target;)LBuildEngine$Result;"⟩
abbrev cX0_resultIfDone : ByteArray := prog_2_method_11_code
def yX0_resultIfDone : MethodName := ⟨RX0, "resultIfDone", "(I)LBuildEngine$Result;"⟩
abbrev cX0_worked : ByteArray := prog_2_method_12_code
def yX0_worked : MethodName := ⟨RX0, "worked", "(IJJ)J"⟩
abbrev cX0_failingSort : ByteArray := prog_2_method_13_code
def yX0_failingSort : MethodName := ⟨RX0, "failingSort", "(IJJJ)I"⟩
abbrev cX0_stepsToPass : ByteArray := prog_2_method_14_code
def yX0_stepsToPass : MethodName := ⟨RX0, "stepsToPass", "(IJI)I"⟩
abbrev cX0_bitOf : ByteArray := prog_2_method_15_code
def yX0_bitOf : MethodName := ⟨RX0, "bitOf", "(I)I"⟩
abbrev cX0_isIn : ByteArray := prog_2_method_16_code
def yX0_isIn : MethodName := ⟨RX0, "isIn", "(II)Z"⟩
def RX1 : String := "BuildEngine$Result"
def TX1 : u_T := fun k => match k with
  | 0 => ("BuildEngine$Result", "content", "I", true)
  | 1 => ("BuildEngine$Result", "key", "I", true)
  | 2 => ("BuildEngine$Result", "sort", "I", true)
  | 3 => ("BuildEngine$Result", "step", "I", true)
  | _ => ("BuildEngine$Result", "cause", "LBuildEngine$Result;", true)
def tyX1 : Nat → FieldType := fun k => match k with
  | 0 => .int
  | 1 => .int
  | 2 => .int
  | 3 => .int
  | _ => .object "BuildEngine$Result"
abbrev wsX10 : List Cond := u_ws RX1 TX1 5
theorem nmX1 : ∀ a, a < 5 → ∀ b, b < 5 → a ≠ b → (TX1 a).2.1 ≠ (TX1 b).2.1 := by decide +kernel
theorem tyX1_ok : ∀ k, k < 5 → parseFieldDescriptor (TX1 k).2.2.1 = some (tyX1 k) := by decide +kernel
abbrev cX1_init : ByteArray := prog_3_method_1_code
def yX1_init : MethodName := ⟨RX1, "<init>", "(IIIILBuildEngine$Result;)V"⟩
abbrev cX1_ofContent : ByteArray := prog_3_method_2_code
def yX1_ofContent : MethodName := ⟨RX1, "ofContent", "(I)LBuildEngine$Result;"⟩
abbrev cX1_ofFailure : ByteArray := prog_3_method_3_code
def yX1_ofFailure : MethodName := ⟨RX1, "ofFailure", "(IIILBuildEngine$Result;)LBuildEngine$Result;"⟩
abbrev cX1_isFailure : ByteArray := prog_3_method_4_code
def yX1_isFailure : MethodName := ⟨RX1, "isFailure", "()Z"⟩
abbrev cX1_asTold : ByteArray := prog_3_method_5_code
def yX1_asTold : MethodName := ⟨RX1, "asTold", "()I"⟩
abbrev cX1_causeCount : ByteArray := prog_3_method_6_code
def yX1_causeCount : MethodName := ⟨RX1, "causeCount", "()I"⟩
abbrev cX1_rootKey : ByteArray := prog_3_method_7_code
def yX1_rootKey : MethodName := ⟨RX1, "rootKey", "()I"⟩
abbrev cX1_isOrComesOfSort : ByteArray := prog_3_method_8_code
def yX1_isOrComesOfSort : MethodName := ⟨RX1, "isOrComesOfSort", "(I)Z"⟩
abbrev cX1_isOrComesOfKey : ByteArray := prog_3_method_9_code
def yX1_isOrComesOfKey : MethodName := ⟨RX1, "isOrComesOfKey", "(I)Z"⟩
abbrev cX1_areSame : ByteArray := prog_3_method_10_code
def yX1_areSame : MethodName := ⟨RX1, "areSame", "(LBuildEngine$Result;LBuildEngine$Result;)Z"⟩
def RX2 : String := "BuildEngine$Row"
def TX2 : u_T := fun k => match k with
  | 0 => ("BuildEngine$Row", "held", "Z", false)
  | 1 => ("BuildEngine$Row", "places", "[J", true)
  | _ => ("BuildEngine$Row", "size", "I", false)
def tyX2 : Nat → FieldType := fun k => match k with
  | 0 => .boolean
  | 1 => .array .long
  | _ => .int
abbrev wsX20 : List Cond := u_ws RX2 TX2 3
theorem nmX2 : ∀ a, a < 3 → ∀ b, b < 3 → a ≠ b → (TX2 a).2.1 ≠ (TX2 b).2.1 := by decide +kernel
theorem tyX2_ok : ∀ k, k < 3 → parseFieldDescriptor (TX2 k).2.2.1 = some (tyX2 k) := by decide +kernel
abbrev cX2_init : ByteArray := prog_4_method_1_code
def yX2_init : MethodName := ⟨RX2, "<init>", "()V"⟩
abbrev cX2_hold : ByteArray := prog_4_method_2_code
def yX2_hold : MethodName := ⟨RX2, "hold", "(I)V"⟩
abbrev cX2_hasPlace : ByteArray := prog_4_method_3_code
def yX2_hasPlace : MethodName := ⟨RX2, "hasPlace", "(I)Z"⟩
abbrev cX2_hasSpan : ByteArray := prog_4_method_4_code
def yX2_hasSpan : MethodName := ⟨RX2, "hasSpan", "(II)Z"⟩
abbrev cX2_read : ByteArray := prog_4_method_5_code
def yX2_read : MethodName := ⟨RX2, "read", "(I)J"⟩
abbrev cX2_write : ByteArray := prog_4_method_6_code
def yX2_write : MethodName := ⟨RX2, "write", "(IJ)Z"⟩
def RX3 : String := "BuildEngine$Tape"
def TX3 : u_T := fun k => match k with
  | 0 => ("BuildEngine$Tape", "letters", "[I", true)
  | _ => ("BuildEngine$Tape", "length", "I", false)
def tyX3 : Nat → FieldType := fun k => match k with
  | 0 => .array .int
  | _ => .int
abbrev wsX30 : List Cond := u_ws RX3 TX3 2
theorem nmX3 : ∀ a, a < 2 → ∀ b, b < 2 → a ≠ b → (TX3 a).2.1 ≠ (TX3 b).2.1 := by decide +kernel
theorem tyX3_ok : ∀ k, k < 2 → parseFieldDescriptor (TX3 k).2.2.1 = some (tyX3 k) := by decide +kernel
abbrev cX3_init : ByteArray := prog_5_method_1_code
def yX3_init : MethodName := ⟨RX3, "<init>", "()V"⟩
abbrev cX3_append : ByteArray := prog_5_method_2_code
def yX3_append : MethodName := ⟨RX3, "append", "(I)Z"⟩
abbrev cX3_empty : ByteArray := prog_5_method_3_code
def yX3_empty : MethodName := ⟨RX3, "empty", "()I"⟩
abbrev cX3_letterAt : ByteArray := prog_5_method_4_code
def yX3_letterAt : MethodName := ⟨RX3, "letterAt", "(I)I"⟩
abbrev cX3_numberAt : ByteArray := prog_5_method_5_code
def yX3_numberAt : MethodName := ⟨RX3, "numberAt", "(I)I"⟩
abbrev cX3_faultAsRule : ByteArray := prog_5_method_6_code
def yX3_faultAsRule : MethodName := ⟨RX3, "faultAsRule", "()I"⟩
abbrev cX3_tellsNoKey : ByteArray := prog_5_method_7_code
def yX3_tellsNoKey : MethodName := ⟨RX3, "tellsNoKey", "(II)Z"⟩
def RX4 : String := "BuildEngine$Target"
def TX4 : u_T := fun k => match k with
  | 0 => ("BuildEngine$Target", "stepCount", "I", false)
  | 1 => ("BuildEngine$Target", "signs", "[I", true)
  | 2 => ("BuildEngine$Target", "figures", "[I", true)
  | 3 => ("BuildEngine$Target", "result", "LBuildEngine$Result;", false)
  | 4 => ("BuildEngine$Target", "traceLength", "I", false)
  | 5 => ("BuildEngine$Target", "tracedKeys", "[I", true)
  | _ => ("BuildEngine$Target", "tracedResults", "[LBuildEngine$Result;", true)
def tyX4 : Nat → FieldType := fun k => match k with
  | 0 => .int
  | 1 => .array .int
  | 2 => .array .int
  | 3 => .object "BuildEngine$Result"
  | 4 => .int
  | 5 => .array .int
  | _ => .array (.object "BuildEngine$Result")
abbrev wsX40 : List Cond := u_ws RX4 TX4 7
theorem nmX4 : ∀ a, a < 7 → ∀ b, b < 7 → a ≠ b → (TX4 a).2.1 ≠ (TX4 b).2.1 := by decide +kernel
theorem tyX4_ok : ∀ k, k < 7 → parseFieldDescriptor (TX4 k).2.2.1 = some (tyX4 k) := by decide +kernel
abbrev cX4_init : ByteArray := prog_6_method_1_code
def yX4_init : MethodName := ⟨RX4, "<init>", "()V"⟩
abbrev cX4_signAt : ByteArray := prog_6_method_2_code
def yX4_signAt : MethodName := ⟨RX4, "signAt", "(I)I"⟩
abbrev cX4_figuresAt : ByteArray := prog_6_method_3_code
def yX4_figuresAt : MethodName := ⟨RX4, "figuresAt", "(I)I"⟩
abbrev cX4_readRule : ByteArray := prog_6_method_4_code
def yX4_readRule : MethodName := ⟨RX4, "readRule", "(LBuildEngine$Tape;)V"⟩
abbrev cX4_takeRule : ByteArray := prog_6_method_5_code
def yX4_takeRule : MethodName := ⟨RX4, "takeRule", "(LBuildEngine$Target;)V"⟩
abbrev cX4_copyRule : ByteArray := prog_6_method_6_code
def yX4_copyRule : MethodName := ⟨RX4, "copyRule", "(LBuildEngine$Target;)V"⟩
abbrev cX4_dropRule : ByteArray := prog_6_method_7_code
def yX4_dropRule : MethodName := ⟨RX4, "dropRule", "()V"⟩
abbrev cX4_hasTrace : ByteArray := prog_6_method_8_code
def yX4_hasTrace : MethodName := ⟨RX4, "hasTrace", "()Z"⟩
abbrev cX4_dropTrace : ByteArray := prog_6_method_9_code
def yX4_dropTrace : MethodName := ⟨RX4, "dropTrace", "()V"⟩
abbrev cX4_startTrace : ByteArray := prog_6_method_10_code
def yX4_startTrace : MethodName := ⟨RX4, "startTrace", "()V"⟩
abbrev cX4_noteInTrace : ByteArray := prog_6_method_11_code
def yX4_noteInTrace : MethodName := ⟨RX4, "noteInTrace", "(ILBuildEngine$Result;)V"⟩
abbrev cX4_traces : ByteArray := prog_6_method_12_code
def yX4_traces : MethodName := ⟨RX4, "traces", "(I)Z"⟩
abbrev cX4_tracedKey : ByteArray := prog_6_method_13_code
def yX4_tracedKey : MethodName := ⟨RX4, "tracedKey", "(I)I"⟩
abbrev cX4_tracedResult : ByteArray := prog_6_method_14_code
def yX4_tracedResult : MethodName := ⟨RX4, "tracedResult", "(I)LBuildEngine$Result;"⟩
abbrev cX4_copyFrom : ByteArray := prog_6_method_15_code
def yX4_copyFrom : MethodName := ⟨RX4, "copyFrom", "(LBuildEngine$Target;)V"⟩
def RX5 : String := "BuildEngine$World"
def TX5 : u_T := fun k => match k with
  | 0 => ("BuildEngine$World", "contents", "[LBuildEngine$Result;", true)
  | 1 => ("BuildEngine$World", "targets", "[LBuildEngine$Target;", true)
  | 2 => ("BuildEngine$World", "empties", "[LBuildEngine$Result;", true)
  | _ => ("BuildEngine$World", "depths", "[I", true)
def tyX5 : Nat → FieldType := fun k => match k with
  | 0 => .array (.object "BuildEngine$Result")
  | 1 => .array (.object "BuildEngine$Target")
  | 2 => .array (.object "BuildEngine$Result")
  | _ => .array .int
abbrev wsX50 : List Cond := u_ws RX5 TX5 4
theorem nmX5 : ∀ a, a < 4 → ∀ b, b < 4 → a ≠ b → (TX5 a).2.1 ≠ (TX5 b).2.1 := by decide +kernel
theorem tyX5_ok : ∀ k, k < 4 → parseFieldDescriptor (TX5 k).2.2.1 = some (tyX5 k) := by decide +kernel
abbrev cX5_init : ByteArray := prog_7_method_1_code
def yX5_init : MethodName := ⟨RX5, "<init>", "()V"⟩
abbrev cX5_targetOf : ByteArray := prog_7_method_2_code
def yX5_targetOf : MethodName := ⟨RX5, "targetOf", "(I)LBuildEngine$Target;"⟩
abbrev cX5_contentOf : ByteArray := prog_7_method_3_code
def yX5_contentOf : MethodName := ⟨RX5, "contentOf", "(I)LBuildEngine$Result;"⟩
abbrev cX5_giveContent : ByteArray := prog_7_method_4_code
def yX5_giveContent : MethodName := ⟨RX5, "giveContent", "(II)Z"⟩
abbrev cX5_takeContent : ByteArray := prog_7_method_5_code
def yX5_takeContent : MethodName := ⟨RX5, "takeContent", "(I)V"⟩
abbrev cX5_emptyOf : ByteArray := prog_7_method_6_code
def yX5_emptyOf : MethodName := ⟨RX5, "emptyOf", "(I)LBuildEngine$Result;"⟩
abbrev cX5_resultOf : ByteArray := prog_7_method_7_code
def yX5_resultOf : MethodName := ⟨RX5, "resultOf", "(I)LBuildEngine$Result;"⟩
abbrev cX5_failureOf : ByteArray := prog_7_method_8_code
def yX5_failureOf : MethodName := ⟨RX5, "failureOf", "(I)LBuildEngine$Result;"⟩
abbrev cX5_toldResult : ByteArray := prog_7_method_9_code
def yX5_toldResult : MethodName := ⟨RX5, "toldResult", "(I)I"⟩
abbrev cX5_targetsFailingBy : ByteArray := prog_7_method_10_code
def yX5_targetsFailingBy : MethodName := ⟨RX5, "targetsFailingBy", "(I)I"⟩
abbrev cX5_targetsTracing : ByteArray := prog_7_method_11_code
def yX5_targetsTracing : MethodName := ⟨RX5, "targetsTracing", "(I)I"⟩
abbrev cX5_targetsUpToDate : ByteArray := prog_7_method_12_code
def yX5_targetsUpToDate : MethodName := ⟨RX5, "targetsUpToDate", "()I"⟩
abbrev cX5_isUpToDate : ByteArray := prog_7_method_13_code
def yX5_isUpToDate : MethodName := ⟨RX5, "isUpToDate", "(LBuildEngine$Target;)Z"⟩
abbrev cX5_depthOf : ByteArray := prog_7_method_14_code
def yX5_depthOf : MethodName := ⟨RX5, "depthOf", "(I)I"⟩
abbrev cX5_deepenAll : ByteArray := prog_7_method_15_code
def yX5_deepenAll : MethodName := ⟨RX5, "deepenAll", "()Z"⟩
abbrev cX5_depthByTrace : ByteArray := prog_7_method_16_code
def yX5_depthByTrace : MethodName := ⟨RX5, "depthByTrace", "(LBuildEngine$Target;)I"⟩
abbrev cX5_unlikeResults : ByteArray := prog_7_method_17_code
def yX5_unlikeResults : MethodName := ⟨RX5, "unlikeResults", "()I"⟩
abbrev cX5_hasSameBelow : ByteArray := prog_7_method_18_code
def yX5_hasSameBelow : MethodName := ⟨RX5, "hasSameBelow", "(I)Z"⟩
abbrev cX5_ruleCount : ByteArray := prog_7_method_19_code
def yX5_ruleCount : MethodName := ⟨RX5, "ruleCount", "()I"⟩
abbrev cX5_traceCount : ByteArray := prog_7_method_20_code
def yX5_traceCount : MethodName := ⟨RX5, "traceCount", "()I"⟩
abbrev cX5_resultCount : ByteArray := prog_7_method_21_code
def yX5_resultCount : MethodName := ⟨RX5, "resultCount", "()I"⟩
abbrev cX5_failureCount : ByteArray := prog_7_method_22_code
def yX5_failureCount : MethodName := ⟨RX5, "failureCount", "()I"⟩
abbrev cX5_copyFrom : ByteArray := prog_7_method_23_code
def yX5_copyFrom : MethodName := ⟨RX5, "copyFrom", "(LBuildEngine$World;)V"⟩
def RX6 : String := "BuildEngine"
def TX6 : u_T := fun k => match k with
  | 0 => ("BuildEngine", "builder", "LBuildEngine$Builder;", true)
  | 1 => ("BuildEngine", "trier", "LBuildEngine$Builder;", true)
  | 2 => ("BuildEngine", "world", "LBuildEngine$World;", true)
  | 3 => ("BuildEngine", "imageWorld", "LBuildEngine$World;", true)
  | 4 => ("BuildEngine", "tape", "LBuildEngine$Tape;", true)
  | 5 => ("BuildEngine", "rows", "[LBuildEngine$Row;", true)
  | _ => ("BuildEngine", "hasImage", "Z", false)
def tyX6 : Nat → FieldType := fun k => match k with
  | 0 => .object "BuildEngine$Builder"
  | 1 => .object "BuildEngine$Builder"
  | 2 => .object "BuildEngine$World"
  | 3 => .object "BuildEngine$World"
  | 4 => .object "BuildEngine$Tape"
  | 5 => .array (.object "BuildEngine$Row")
  | _ => .boolean
abbrev wsX60 : List Cond := u_ws RX6 TX6 7
theorem nmX6 : ∀ a, a < 7 → ∀ b, b < 7 → a ≠ b → (TX6 a).2.1 ≠ (TX6 b).2.1 := by decide +kernel
theorem tyX6_ok : ∀ k, k < 7 → parseFieldDescriptor (TX6 k).2.2.1 = some (tyX6 k) := by decide +kernel
abbrev cX6_init : ByteArray := prog_1_method_1_code
def yX6_init : MethodName := ⟨RX6, "<init>", "()V"⟩
abbrev cX6_give : ByteArray := prog_1_method_2_code
def yX6_give : MethodName := ⟨RX6, "give", "(II)I"⟩
abbrev cX6_take : ByteArray := prog_1_method_3_code
def yX6_take : MethodName := ⟨RX6, "take", "(I)I"⟩
abbrev cX6_feed : ByteArray := prog_1_method_4_code
def yX6_feed : MethodName := ⟨RX6, "feed", "(I)I"⟩
abbrev cX6_clear : ByteArray := prog_1_method_5_code
def yX6_clear : MethodName := ⟨RX6, "clear", "()I"⟩
abbrev cX6_rule : ByteArray := prog_1_method_6_code
def yX6_rule : MethodName := ⟨RX6, "rule", "(I)I"⟩
abbrev cX6_drop : ByteArray := prog_1_method_7_code
def yX6_drop : MethodName := ⟨RX6, "drop", "(I)I"⟩
abbrev cX6_copy : ByteArray := prog_1_method_8_code
def yX6_copy : MethodName := ⟨RX6, "copy", "(II)I"⟩
abbrev cX6_step : ByteArray := prog_1_method_9_code
def yX6_step : MethodName := ⟨RX6, "step", "(II)I"⟩
abbrev cX6_build : ByteArray := prog_1_method_10_code
def yX6_build : MethodName := ⟨RX6, "build", "(I)I"⟩
abbrev cX6_all : ByteArray := prog_1_method_11_code
def yX6_all : MethodName := ⟨RX6, "all", "(I)I"⟩
abbrev cX6_some : ByteArray := prog_1_method_12_code
def yX6_some : MethodName := ⟨RX6, "some", "(II)I"⟩
abbrev cX6_tried : ByteArray := prog_1_method_13_code
def yX6_tried : MethodName := ⟨RX6, "tried", "(III)I"⟩
abbrev cX6_result : ByteArray := prog_1_method_14_code
def yX6_result : MethodName := ⟨RX6, "result", "(I)I"⟩
abbrev cX6_failure : ByteArray := prog_1_method_15_code
def yX6_failure : MethodName := ⟨RX6, "failure", "(III)I"⟩
abbrev cX6_causes : ByteArray := prog_1_method_16_code
def yX6_causes : MethodName := ⟨RX6, "causes", "(I)I"⟩
abbrev cX6_root : ByteArray := prog_1_method_17_code
def yX6_root : MethodName := ⟨RX6, "root", "(I)I"⟩
abbrev cX6_blamed : ByteArray := prog_1_method_18_code
def yX6_blamed : MethodName := ⟨RX6, "blamed", "(I)I"⟩
abbrev cX6_trace : ByteArray := prog_1_method_19_code
def yX6_trace : MethodName := ⟨RX6, "trace", "(II)I"⟩
abbrev cX6_seen : ByteArray := prog_1_method_20_code
def yX6_seen : MethodName := ⟨RX6, "seen", "(II)I"⟩
abbrev cX6_users : ByteArray := prog_1_method_21_code
def yX6_users : MethodName := ⟨RX6, "users", "(I)I"⟩
abbrev cX6_depth : ByteArray := prog_1_method_22_code
def yX6_depth : MethodName := ⟨RX6, "depth", "(I)I"⟩
abbrev cX6_order : ByteArray := prog_1_method_23_code
def yX6_order : MethodName := ⟨RX6, "order", "(I)I"⟩
abbrev cX6_unlike : ByteArray := prog_1_method_24_code
def yX6_unlike : MethodName := ⟨RX6, "unlike", "()I"⟩
abbrev cX6_fresh : ByteArray := prog_1_method_25_code
def yX6_fresh : MethodName := ⟨RX6, "fresh", "()I"⟩
abbrev cX6_forget : ByteArray := prog_1_method_26_code
def yX6_forget : MethodName := ⟨RX6, "forget", "(I)I"⟩
abbrev cX6_told : ByteArray := prog_1_method_27_code
def yX6_told : MethodName := ⟨RX6, "told", "(I)I"⟩
abbrev cX6_list : ByteArray := prog_1_method_28_code
def yX6_list : MethodName := ⟨RX6, "list", "(II)I"⟩
abbrev cX6_put : ByteArray := prog_1_method_29_code
def yX6_put : MethodName := ⟨RX6, "put", "(IIJ)I"⟩
abbrev cX6_get : ByteArray := prog_1_method_30_code
def yX6_get : MethodName := ⟨RX6, "get", "(II)J"⟩
abbrev cX6_move : ByteArray := prog_1_method_31_code
def yX6_move : MethodName := ⟨RX6, "move", "(IIIII)I"⟩
abbrev cX6_lay : ByteArray := prog_1_method_32_code
def yX6_lay : MethodName := ⟨RX6, "lay", "(II)I"⟩
abbrev cX6_judge : ByteArray := prog_1_method_33_code
def yX6_judge : MethodName := ⟨RX6, "judge", "(II)I"⟩
abbrev cX6_image : ByteArray := prog_1_method_34_code
def yX6_image : MethodName := ⟨RX6, "image", "()I"⟩
abbrev cX6_undo : ByteArray := prog_1_method_35_code
def yX6_undo : MethodName := ⟨RX6, "undo", "()I"⟩
abbrev cX6_rowOf : ByteArray := prog_1_method_36_code
def yX6_rowOf : MethodName := ⟨RX6, "rowOf", "(I)LBuildEngine$Row;"⟩
abbrev cX6_isInput : ByteArray := prog_1_method_37_code
def yX6_isInput : MethodName := ⟨RX6, "isInput", "(I)Z"⟩
abbrev cX6_isTarget : ByteArray := prog_1_method_38_code
def yX6_isTarget : MethodName := ⟨RX6, "isTarget", "(I)Z"⟩
abbrev cX6_isKey : ByteArray := prog_1_method_39_code
def yX6_isKey : MethodName := ⟨RX6, "isKey", "(I)Z"⟩
abbrev cX6_isContent : ByteArray := prog_1_method_40_code
def yX6_isContent : MethodName := ⟨RX6, "isContent", "(J)Z"⟩
abbrev cX6_isStops : ByteArray := prog_1_method_41_code
def yX6_isStops : MethodName := ⟨RX6, "isStops", "(I)Z"⟩
abbrev cX6_asksForKey : ByteArray := prog_1_method_42_code
def yX6_asksForKey : MethodName := ⟨RX6, "asksForKey", "(I)Z"⟩
abbrev cX6_isSign : ByteArray := prog_1_method_43_code
def yX6_isSign : MethodName := ⟨RX6, "isSign", "(I)Z"⟩
abbrev cX6_isFigure : ByteArray := prog_1_method_44_code
def yX6_isFigure : MethodName := ⟨RX6, "isFigure", "(I)Z"⟩
def RX7 : String := "BuildEngineModel"
def TX7 : u_T := fun k => match k with
  | 0 => ("BuildEngineModel", "failedKey", "[I", true)
  | 1 => ("BuildEngineModel", "failedSort", "[I", true)
  | 2 => ("BuildEngineModel", "failedStep", "[I", true)
  | 3 => ("BuildEngineModel", "failedBy", "[I", true)
  | 4 => ("BuildEngineModel", "failures", "I", false)
  | 5 => ("BuildEngineModel", "now", "[I", true)
  | 6 => ("BuildEngineModel", "then", "[I", true)
  | 7 => ("BuildEngineModel", "ahead", "[I", true)
  | 8 => ("BuildEngineModel", "kept", "Z", false)
  | 9 => ("BuildEngineModel", "tape", "[I", true)
  | 10 => ("BuildEngineModel", "length", "I", false)
  | 11 => ("BuildEngineModel", "done", "[Z", true)
  | 12 => ("BuildEngineModel", "building", "[Z", true)
  | 13 => ("BuildEngineModel", "order", "[I", true)
  | 14 => ("BuildEngineModel", "ordered", "I", false)
  | 15 => ("BuildEngineModel", "stoppedBy", "I", false)
  | 16 => ("BuildEngineModel", "starts", "I", false)
  | 17 => ("BuildEngineModel", "putOffs", "I", false)
  | 18 => ("BuildEngineModel", "spared", "I", false)
  | 19 => ("BuildEngineModel", "cuts", "I", false)
  | 20 => ("BuildEngineModel", "asked", "[I", true)
  | 21 => ("BuildEngineModel", "saw", "[I", true)
  | 22 => ("BuildEngineModel", "askedMany", "I", false)
  | 23 => ("BuildEngineModel", "wasDone", "[Z", true)
  | 24 => ("BuildEngineModel", "wasOrder", "[I", true)
  | 25 => ("BuildEngineModel", "depths", "[I", true)
  | 26 => ("BuildEngineModel", "sizes", "[I", true)
  | 27 => ("BuildEngineModel", "items", "[J", true)
  | _ => ("BuildEngineModel", "moved", "[J", true)
def tyX7 : Nat → FieldType := fun k => match k with
  | 0 => .array .int
  | 1 => .array .int
  | 2 => .array .int
  | 3 => .array .int
  | 4 => .int
  | 5 => .array .int
  | 6 => .array .int
  | 7 => .array .int
  | 8 => .boolean
  | 9 => .array .int
  | 10 => .int
  | 11 => .array .boolean
  | 12 => .array .boolean
  | 13 => .array .int
  | 14 => .int
  | 15 => .int
  | 16 => .int
  | 17 => .int
  | 18 => .int
  | 19 => .int
  | 20 => .array .int
  | 21 => .array .int
  | 22 => .int
  | 23 => .array .boolean
  | 24 => .array .int
  | 25 => .array .int
  | 26 => .array .int
  | 27 => .array .long
  | _ => .array .long
abbrev wsX70 : List Cond := u_ws RX7 TX7 29
theorem nmX7 : ∀ a, a < 29 → ∀ b, b < 29 → a ≠ b → (TX7 a).2.1 ≠ (TX7 b).2.1 := by decide +kernel
theorem tyX7_ok : ∀ k, k < 29 → parseFieldDescriptor (TX7 k).2.2.1 = some (tyX7 k) := by decide +kernel
abbrev cX7_isIn : ByteArray := prog_9_method_1_code
def yX7_isIn : MethodName := ⟨RX7, "isIn", "(JJJ)Z"⟩
abbrev cX7_isInput : ByteArray := prog_9_method_2_code
def yX7_isInput : MethodName := ⟨RX7, "isInput", "(I)Z"⟩
abbrev cX7_isTarget : ByteArray := prog_9_method_3_code
def yX7_isTarget : MethodName := ⟨RX7, "isTarget", "(I)Z"⟩
abbrev cX7_isKey : ByteArray := prog_9_method_4_code
def yX7_isKey : MethodName := ⟨RX7, "isKey", "(I)Z"⟩
abbrev cX7_numberResult : ByteArray := prog_9_method_5_code
def yX7_numberResult : MethodName := ⟨RX7, "numberResult", "(I)I"⟩
abbrev cX7_fails : ByteArray := prog_9_method_6_code
def yX7_fails : MethodName := ⟨RX7, "fails", "(IIII)I"⟩
abbrev cX7_isFailure : ByteArray := prog_9_method_7_code
def yX7_isFailure : MethodName := ⟨RX7, "isFailure", "(I)Z"⟩
abbrev cX7_numberOf : ByteArray := prog_9_method_8_code
def yX7_numberOf : MethodName := ⟨RX7, "numberOf", "(I)I"⟩
abbrev cX7_toldOf : ByteArray := prog_9_method_9_code
def yX7_toldOf : MethodName := ⟨RX7, "toldOf", "(I)I"⟩
abbrev cX7_init : ByteArray := prog_9_method_10_code
def yX7_init : MethodName := ⟨RX7, "<init>", "()V"⟩
abbrev cX7_pours : ByteArray := prog_9_method_11_code
def yX7_pours : MethodName := ⟨RX7, "pours", "([I[I)V"⟩
abbrev cX7_ruled : ByteArray := prog_9_method_12_code
def yX7_ruled : MethodName := ⟨RX7, "ruled", "(II)I"⟩
abbrev cX7_traceAt : ByteArray := prog_9_method_13_code
def yX7_traceAt : MethodName := ⟨RX7, "traceAt", "(I)I"⟩
abbrev cX7_traced : ByteArray := prog_9_method_14_code
def yX7_traced : MethodName := ⟨RX7, "traced", "(I)I"⟩
abbrev cX7_has : ByteArray := prog_9_method_15_code
def yX7_has : MethodName := ⟨RX7, "has", "(I)I"⟩
abbrev cX7_give : ByteArray := prog_9_method_16_code
def yX7_give : MethodName := ⟨RX7, "give", "(II)I"⟩
abbrev cX7_take : ByteArray := prog_9_method_17_code
def yX7_take : MethodName := ⟨RX7, "take", "(I)I"⟩
abbrev cX7_feed : ByteArray := prog_9_method_18_code
def yX7_feed : MethodName := ⟨RX7, "feed", "(I)I"⟩
abbrev cX7_clear : ByteArray := prog_9_method_19_code
def yX7_clear : MethodName := ⟨RX7, "clear", "()I"⟩
abbrev cX7_isAsking : ByteArray := prog_9_method_20_code
def yX7_isAsking : MethodName := ⟨RX7, "isAsking", "(I)Z"⟩
abbrev cX7_isSign : ByteArray := prog_9_method_21_code
def yX7_isSign : MethodName := ⟨RX7, "isSign", "(I)Z"⟩
abbrev cX7_isFigure : ByteArray := prog_9_method_22_code
def yX7_isFigure : MethodName := ⟨RX7, "isFigure", "(I)Z"⟩
abbrev cX7_fault : ByteArray := prog_9_method_23_code
def yX7_fault : MethodName := ⟨RX7, "fault", "()I"⟩
abbrev cX7_rule : ByteArray := prog_9_method_24_code
def yX7_rule : MethodName := ⟨RX7, "rule", "(I)I"⟩
abbrev cX7_drop : ByteArray := prog_9_method_25_code
def yX7_drop : MethodName := ⟨RX7, "drop", "(I)I"⟩
abbrev cX7_copy : ByteArray := prog_9_method_26_code
def yX7_copy : MethodName := ⟨RX7, "copy", "(II)I"⟩
abbrev cX7_step : ByteArray := prog_9_method_27_code
def yX7_step : MethodName := ⟨RX7, "step", "(II)I"⟩
abbrev cX7_isDone : ByteArray := prog_9_method_28_code
def yX7_isDone : MethodName := ⟨RX7, "isDone", "(I)Z"⟩
abbrev cX7_finishes : ByteArray := prog_9_method_29_code
def yX7_finishes : MethodName := ⟨RX7, "finishes", "(I)V"⟩
abbrev cX7_builds : ByteArray := prog_9_method_30_code
def yX7_builds : MethodName := ⟨RX7, "builds", "(I)V"⟩
abbrev cX7_isAsSeen : ByteArray := prog_9_method_31_code
def yX7_isAsSeen : MethodName := ⟨RX7, "isAsSeen", "(I)Z"⟩
abbrev cX7_notes : ByteArray := prog_9_method_32_code
def yX7_notes : MethodName := ⟨RX7, "notes", "(II)V"⟩
abbrev cX7_isOfRing : ByteArray := prog_9_method_33_code
def yX7_isOfRing : MethodName := ⟨RX7, "isOfRing", "(I)Z"⟩
abbrev cX7_runs : ByteArray := prog_9_method_34_code
def yX7_runs : MethodName := ⟨RX7, "runs", "(I)I"⟩
abbrev cX7_goes : ByteArray := prog_9_method_35_code
def yX7_goes : MethodName := ⟨RX7, "goes", "(I)I"⟩
abbrev cX7_manyDone : ByteArray := prog_9_method_36_code
def yX7_manyDone : MethodName := ⟨RX7, "manyDone", "()I"⟩
abbrev cX7_built : ByteArray := prog_9_method_37_code
def yX7_built : MethodName := ⟨RX7, "built", "(IZ)I"⟩
abbrev cX7_build : ByteArray := prog_9_method_38_code
def yX7_build : MethodName := ⟨RX7, "build", "(I)I"⟩
abbrev cX7_all : ByteArray := prog_9_method_39_code
def yX7_all : MethodName := ⟨RX7, "all", "(I)I"⟩
abbrev cX7_some : ByteArray := prog_9_method_40_code
def yX7_some : MethodName := ⟨RX7, "some", "(II)I"⟩
abbrev cX7_tried : ByteArray := prog_9_method_41_code
def yX7_tried : MethodName := ⟨RX7, "tried", "(III)I"⟩
abbrev cX7_result : ByteArray := prog_9_method_42_code
def yX7_result : MethodName := ⟨RX7, "result", "(I)I"⟩
abbrev cX7_causeOf : ByteArray := prog_9_method_43_code
def yX7_causeOf : MethodName := ⟨RX7, "causeOf", "(II)I"⟩
abbrev cX7_failure : ByteArray := prog_9_method_44_code
def yX7_failure : MethodName := ⟨RX7, "failure", "(III)I"⟩
abbrev cX7_causes : ByteArray := prog_9_method_45_code
def yX7_causes : MethodName := ⟨RX7, "causes", "(I)I"⟩
abbrev cX7_root : ByteArray := prog_9_method_46_code
def yX7_root : MethodName := ⟨RX7, "root", "(I)I"⟩
abbrev cX7_blamed : ByteArray := prog_9_method_47_code
def yX7_blamed : MethodName := ⟨RX7, "blamed", "(I)I"⟩
abbrev cX7_amiss : ByteArray := prog_9_method_48_code
def yX7_amiss : MethodName := ⟨RX7, "amiss", "(II)I"⟩
abbrev cX7_trace : ByteArray := prog_9_method_49_code
def yX7_trace : MethodName := ⟨RX7, "trace", "(II)I"⟩
abbrev cX7_seen : ByteArray := prog_9_method_50_code
def yX7_seen : MethodName := ⟨RX7, "seen", "(II)I"⟩
abbrev cX7_isTraced : ByteArray := prog_9_method_51_code
def yX7_isTraced : MethodName := ⟨RX7, "isTraced", "(II)Z"⟩
abbrev cX7_users : ByteArray := prog_9_method_52_code
def yX7_users : MethodName := ⟨RX7, "users", "(I)I"⟩
abbrev cX7_depth : ByteArray := prog_9_method_53_code
def yX7_depth : MethodName := ⟨RX7, "depth", "(I)I"⟩
abbrev cX7_order : ByteArray := prog_9_method_54_code
def yX7_order : MethodName := ⟨RX7, "order", "(I)I"⟩
abbrev cX7_unlike : ByteArray := prog_9_method_55_code
def yX7_unlike : MethodName := ⟨RX7, "unlike", "()I"⟩
abbrev cX7_fresh : ByteArray := prog_9_method_56_code
def yX7_fresh : MethodName := ⟨RX7, "fresh", "()I"⟩
abbrev cX7_forget : ByteArray := prog_9_method_57_code
def yX7_forget : MethodName := ⟨RX7, "forget", "(I)I"⟩
abbrev cX7_having : ByteArray := prog_9_method_58_code
def yX7_having : MethodName := ⟨RX7, "having", "(I)I"⟩
abbrev cX7_told : ByteArray := prog_9_method_59_code
def yX7_told : MethodName := ⟨RX7, "told", "(I)I"⟩
abbrev cX7_isList : ByteArray := prog_9_method_60_code
def yX7_isList : MethodName := ⟨RX7, "isList", "(I)Z"⟩
abbrev cX7_list : ByteArray := prog_9_method_61_code
def yX7_list : MethodName := ⟨RX7, "list", "(II)I"⟩
abbrev cX7_put : ByteArray := prog_9_method_62_code
def yX7_put : MethodName := ⟨RX7, "put", "(IIJ)I"⟩
abbrev cX7_get : ByteArray := prog_9_method_63_code
def yX7_get : MethodName := ⟨RX7, "get", "(II)J"⟩
abbrev cX7_move : ByteArray := prog_9_method_64_code
def yX7_move : MethodName := ⟨RX7, "move", "(IIIII)I"⟩
abbrev cX7_lay : ByteArray := prog_9_method_65_code
def yX7_lay : MethodName := ⟨RX7, "lay", "(II)I"⟩
abbrev cX7_judge : ByteArray := prog_9_method_66_code
def yX7_judge : MethodName := ⟨RX7, "judge", "(II)I"⟩
abbrev cX7_image : ByteArray := prog_9_method_67_code
def yX7_image : MethodName := ⟨RX7, "image", "()I"⟩
abbrev cX7_undo : ByteArray := prog_9_method_68_code
def yX7_undo : MethodName := ⟨RX7, "undo", "()I"⟩
def RJ9 : String := "java/lang/Math"
abbrev cJ9_max_7cf53 : ByteArray := prog_10_method_65_code
def yJ9_max_7cf53 : MethodName := ⟨RJ9, "max", "(II)I"⟩
abbrev cJ9_min_7cf53 : ByteArray := prog_10_method_69_code
def yJ9_min_7cf53 : MethodName := ⟨RJ9, "min", "(II)I"⟩
def RJ10 : String := "java/lang/System"
def RJ7 : String := "java/util/Arrays"
abbrev cJ7_fill_d0a16 : ByteArray := prog_12_method_101_code
def yJ7_fill_d0a16 : MethodName := ⟨RJ7, "fill", "([JJ)V"⟩
abbrev cJ7_fill_53178 : ByteArray := prog_12_method_103_code
def yJ7_fill_53178 : MethodName := ⟨RJ7, "fill", "([II)V"⟩
def RL : String := "BuildEngineLaw"
abbrev cL_law : ByteArray := code
def yL_law : MethodName := ⟨RL, "law", "([I)Z"⟩
end
section
/-! A method's run, over a heap told as a function of addresses. pm_H: the next address, the slots made, what the cells hold. -/
abbrev pm_M : Type := MethodName × ByteArray × Nat × Option FieldType
abbrev pm_H : Type := Nat × Nat × (Nat → Option va_E)
abbrev pm_Ls : Type := List (Option Value)
def pm_cl : List vw_C := [(RX0, TX0, 11), (RX1, TX1, 5), (RX2, TX2, 3), (RX3, TX3, 2), (RX4, TX4, 7), (RX5, TX5, 4), (RX6, TX6, 7), (RX7, TX7, 29)]
/-- the types of arrays by numbers -/
def pm_ty : Nat → FieldType := fun t => match t with
  | 0 => .int
  | 1 => .long
  | 2 => .boolean
  | 3 => .object RX1
  | 4 => .object RX4
  | _ => .object RX2
abbrev pm_ia (t n : Nat) (f : Nat → Int32) : va_E := .inl (t, n, .inl f)
abbrev pm_la (n : Nat) (f : Nat → Int64) : va_E := .inl (1, n, .inr (.inl f))
abbrev pm_qa (t n : Nat) (f : Nat → Option Nat) : va_E := .inl (t, n, .inr (.inr (.inr (.inr f))))
abbrev pm_ob (ci : Nat) (fs : List Value) : va_E := .inr (ci, fs)
/-- a cell of ours lies from B on; the script (type 9) ahead of B, and is only read -/
def pm_at (B : Nat) (D : va_G) (s : State) (a : Nat) (e : va_E) (H : Heap) : Prop := match e with
  | .inl (t, x) => if t = 9 then a < B ∧ ∃ (L : Nat) (xs : Nat → Int32), x = (L, .inl xs) ∧ va_X a L xs s H
    else B ≤ a ∧ ∃ cA : ClassId, ArrOfT s cA (pm_ty t) ∧ va_RA s cA (pm_ty t) ∧ H[a]? = some (vp_cell cA x)
  | .inr o => B ≤ a ∧ va_at D pm_cl (a, .inr o) H
def pm_R (B : Nat) (D : va_G) (s : State) (H : Heap) (h : pm_H) : Prop := H.size = h.1 ∧ B ≤ h.1 ∧ ∀ (a : Nat) (e : va_E), h.2.2 a = some e → pm_at B D s a e H
theorem pm_at.lt {B : Nat} {D : va_G} {s : State} {a : Nat} {e : va_E} {H : Heap} (h : pm_at B D s a e H) : a < H.size := by
  rcases e with ⟨t, x⟩ | q
  · unfold pm_at at h
    dsimp only at h
    split at h
    · obtain ⟨-, L, xs, -, scr, h1, -⟩ := h
      exact (Array.getElem?_eq_some_iff.mp h1).1
    · obtain ⟨-, cA, -, -, h1⟩ := h
      exact (Array.getElem?_eq_some_iff.mp h1).1
  · exact va_at.lt (D := D) (cl := pm_cl) (q := (a, .inr q)) h.2
theorem pm_at.kept {B : Nat} {D : va_G} {s : State} {a : Nat} {e : va_E} {H H1 : Heap} (h : pm_at B D s a e H) (hq : H1[a]? = H[a]?) : pm_at B D s a e H1 := by
  rcases e with ⟨t, x⟩ | q
  · unfold pm_at at h ⊢
    dsimp only at h ⊢
    split at h
    · next ht =>
      rw [if_pos ht]
      obtain ⟨h0, L, xs, hx, hX⟩ := h
      exact ⟨h0, L, xs, hx, hX.kept hq⟩
    · next ht =>
      rw [if_neg ht]
      obtain ⟨h0, cA, h1, h2, h3⟩ := h
      exact ⟨h0, cA, h1, h2, hq.trans h3⟩
  · exact ⟨h.1, va_at.kept (q := (a, .inr q)) h.2 hq⟩
theorem pm_at.moved {B : Nat} {D : va_G} {u U : State} (hvm : u.vm.Alike U.vm) {a : Nat} {e : va_E} {H : Heap} (h : pm_at B D u a e H) : pm_at B D U a e H := by
  rcases e with ⟨t, x⟩ | q
  · unfold pm_at at h ⊢
    dsimp only at h ⊢
    split at h
    · next ht =>
      rw [if_pos ht]
      obtain ⟨h0, L, xs, hx, hX⟩ := h
      exact ⟨h0, L, xs, hx, hX.moved hvm⟩
    · next ht =>
      rw [if_neg ht]
      obtain ⟨h0, cA, h1, h2, h3⟩ := h
      exact ⟨h0, cA, arrOfT_moved hvm h1, h2.moved hvm, h3⟩
  · exact h
theorem pm_R.moved {B : Nat} {D : va_G} {u U : State} (hvm : u.vm.Alike U.vm) {H : Heap} {h : pm_H} (hR : pm_R B D u H h) : pm_R B D U H h := ⟨hR.1, hR.2.1, fun a e he => (hR.2.2 a e he).moved hvm⟩
theorem pm_R.set {B : Nat} {D : va_G} {s : State} {H H1 : Heap} {n w a : Nat} {f : Nat → Option va_E} {e : va_E} (hR : pm_R B D s H (n, w, f)) (he : pm_at B D s a e H1) (hz : H1.size = H.size) (hq : ∀ q : Nat, q ≠ a → H1[q]? = H[q]?) : pm_R B D s H1 (n, w, va_up f a (some e)) := by
  refine ⟨hz.trans hR.1, hR.2.1, fun b e' hb => ?_⟩
  by_cases hba : b = a
  · subst hba
    rw [show (n, w, va_up f b (some e)).2.2 b = some e from va_up_self f b _] at hb
    cases hb
    exact he
  · rw [show (n, w, va_up f a (some e)).2.2 b = f b from va_up_ne f _ hba] at hb
    exact (hR.2.2 b e' hb).kept (hq b hba)
theorem pm_R.push {B : Nat} {D : va_G} {s : State} {H H1 : Heap} {n w w1 : Nat} {f : Nat → Option va_E} {e : va_E} (hR : pm_R B D s H (n, w, f)) (he : pm_at B D s n e H1) (hz : H1.size = n + 1) (hq : ∀ q : Nat, q < n → H1[q]? = H[q]?) : pm_R B D s H1 (n + 1, w1, va_up f n (some e)) := by
  refine ⟨hz, Nat.le_succ_of_le hR.2.1, fun b e' hb => ?_⟩
  by_cases hba : b = n
  · subst hba
    rw [show (b + 1, w1, va_up f b (some e)).2.2 b = some e from va_up_self f b _] at hb
    cases hb
    exact he
  · rw [show (n + 1, w1, va_up f n (some e)).2.2 b = f b from va_up_ne f _ hba] at hb
    have h1 := hR.2.2 b e' hb
    have h2 := h1.lt
    rw [hR.1] at h2
    exact h1.kept (hq b h2)
/-! the locals: a list of places -/
def pm_L (lsA : Array Slot) (nL : Nat) (ls : pm_Ls) : Prop := lsA.size = nL ∧ lv_wf lsA ∧ ls.length = nL ∧ ∀ (i : Nat) (v : Value), ls[i]? = some (some v) → lsA[i]? = some (.val v)
def pm_lv (ls : pm_Ls) : List (Nat × Value) := (List.range ls.length).filterMap (fun j => (ls.getD j none).map (fun v => (j, v)))
theorem pm_lv_mem {ls : pm_Ls} {j : Nat} {v : Value} : (j, v) ∈ pm_lv ls ↔ ls[j]? = some (some v) := by
  unfold pm_lv
  rw [List.mem_filterMap]
  constructor
  · rintro ⟨k, hk, he⟩
    rw [List.mem_range] at hk
    rw [List.getD_eq_getElem?_getD] at he
    cases hg : ls[k]? with
    | none => rw [hg] at he; simp at he
    | some z =>
      rw [hg] at he
      cases z with
      | none => simp at he
      | some u =>
        simp at he
        obtain ⟨h1, h2⟩ := he
        subst h1; subst h2
        exact hg
  · intro h
    refine ⟨j, List.mem_range.mpr (List.getElem?_eq_some_iff.mp h).1, ?_⟩
    rw [List.getD_eq_getElem?_getD, h]
    rfl
theorem pm_L.has {lsA : Array Slot} {nL : Nat} {ls : pm_Ls} (h : pm_L lsA nL ls) : lv_has lsA nL (pm_lv ls) := ⟨h.1, h.2.1, fun q hq => h.2.2.2 q.1 q.2 (pm_lv_mem.mp hq)⟩
def pm_nl : Option Value → Bool := fun v => match v with
  | some (.long _) => false
  | some (.double _) => false
  | _ => true
theorem pm_nl_cat {v : Value} (h : pm_nl (some v) = true) : ¬ v.category = 2 := by
  cases v <;> simp [pm_nl, Value.category] at h ⊢
/-- a value of one slot at place i -/
theorem pm_L.put1 {lsA lsB : Array Slot} {nL i : Nat} {v : Value} {ls : pm_Ls} (h : pm_L lsA nL ls) (hn : ∀ z, 0 < i → ls[i - 1]? = some z → pm_nl z = true)
    (hB : lv_has lsB nL ((i, v) :: (pm_lv ls).filter (fun q => !(q.1 == i) && !(q.1 + 1 == i && q.2.category == 2)))) : pm_L lsB nL (ls.set i (some v)) := by
  refine ⟨hB.1, hB.2.1, by rw [List.length_set]; exact h.2.2.1, fun j u hj => ?_⟩
  by_cases hji : i = j
  · subst hji
    rw [List.getElem?_set] at hj
    simp only [if_true] at hj
    split at hj
    · cases hj
      exact hB.2.2 (i, v) List.mem_cons_self
    · cases hj
  · rw [List.getElem?_set_ne hji] at hj
    refine hB.2.2 (j, u) (List.mem_cons_of_mem _ (List.mem_filter.mpr ⟨pm_lv_mem.mpr hj, ?_⟩))
    have h1 : (j == i) = false := by simp; exact fun e => hji e.symm
    simp only [h1, Bool.not_false, Bool.true_and]
    by_cases hj1 : j + 1 = i
    · have h2 := hn (some u) (by omega) (by rw [show i - 1 = j by omega]; exact hj)
      have h3 := pm_nl_cat h2
      have h4 : (u.category == 2) = false := by simp; exact h3
      simp [h4]
    · have h4 : (j + 1 == i) = false := by simp; exact hj1
      simp [h4]
/-- a long at place i -/
theorem pm_L.put2 {lsA lsB : Array Slot} {nL i : Nat} {v : Value} {ls : pm_Ls} (h : pm_L lsA nL ls) (hn : ∀ z, 0 < i → ls[i - 1]? = some z → pm_nl z = true)
    (hB : lv_has lsB nL ((i, v) :: (pm_lv ls).filter (fun q => !(q.1 == i) && (!(q.1 == i + 1) && !(q.1 + 1 == i && q.2.category == 2))))) : pm_L lsB nL ((ls.set i (some v)).set (i + 1) none) := by
  refine ⟨hB.1, hB.2.1, by rw [List.length_set, List.length_set]; exact h.2.2.1, fun j u hj => ?_⟩
  by_cases hj2 : i + 1 = j
  · subst hj2
    rw [List.getElem?_set] at hj
    simp only [if_true] at hj
    split at hj <;> cases hj
  rw [List.getElem?_set_ne hj2] at hj
  by_cases hji : i = j
  · subst hji
    rw [List.getElem?_set] at hj
    simp only [if_true] at hj
    split at hj
    · cases hj
      exact hB.2.2 (i, v) List.mem_cons_self
    · cases hj
  · rw [List.getElem?_set_ne hji] at hj
    refine hB.2.2 (j, u) (List.mem_cons_of_mem _ (List.mem_filter.mpr ⟨pm_lv_mem.mpr hj, ?_⟩))
    have h1 : (j == i) = false := by simp; exact fun e => hji e.symm
    have h1b : (j == i + 1) = false := by simp; exact fun e => hj2 e.symm
    simp only [h1, h1b, Bool.not_false, Bool.true_and]
    by_cases hj1 : j + 1 = i
    · have h2 := hn (some u) (by omega) (by rw [show i - 1 = j by omega]; exact hj)
      have h3 := pm_nl_cat h2
      have h4 : (u.category == 2) = false := by simp; exact h3
      simp [h4]
    · have h4 : (j + 1 == i) = false := by simp; exact hj1
      simp [h4]
def pm_sl : List Value → pm_Ls
  | [] => []
  | v :: r => if v.category = 2 then some v :: none :: pm_sl r else some v :: pm_sl r
def pm_ent (n : Nat) (vs : List Value) : pm_Ls := pm_sl vs ++ List.replicate (n - (pm_sl vs).length) none
theorem pm_sl_len (vs : List Value) : (pm_sl vs).length = (lg_sl vs).length := by
  induction vs with
  | nil => rfl
  | cons v r ih =>
    unfold pm_sl
    unfold lg_sl at ih ⊢
    rw [List.flatMap_cons]
    split <;> simp [ih] <;> omega
theorem pm_sl_args : ∀ (vs : List Value) (k i : Nat) (v : Value), (pm_sl vs)[i]? = some (some v) → (k + i, v) ∈ lv_args k vs
  | [], k, i, v, h => by simp [pm_sl] at h
  | u :: r, k, i, v, h => by
    unfold pm_sl at h
    unfold lv_args
    split at h
    · next hc =>
      rw [if_pos hc]
      match i with
      | 0 => simp at h; subst h; simp
      | 1 => simp at h
      | j + 2 =>
        simp at h
        have := pm_sl_args r (k + 2) j v h
        rw [show k + 2 + j = k + (j + 2) by omega] at this
        exact List.mem_cons_of_mem _ this
    · next hc =>
      rw [if_neg hc]
      match i with
      | 0 => simp at h; subst h; simp
      | j + 1 =>
        simp at h
        have := pm_sl_args r (k + 1) j v h
        rw [show k + 1 + j = k + (j + 1) by omega] at this
        exact List.mem_cons_of_mem _ this
theorem pm_L.entry (vs : List Value) {n : Nat} (h : (pm_sl vs).length ≤ n) : pm_L ((lg_sl vs ++ List.replicate (n - (lg_sl vs).length) Slot.unset).toArray) n (pm_ent n vs) := by
  obtain ⟨h1, h2, h3⟩ := lv_entry vs (n := n) (by rw [← pm_sl_len]; exact h)
  refine ⟨h1, h2, by simp [pm_ent]; omega, fun i v hi => ?_⟩
  unfold pm_ent at hi
  by_cases hl : i < (pm_sl vs).length
  · rw [List.getElem?_append_left hl] at hi
    have := pm_sl_args vs 0 i v hi
    rw [Nat.zero_add] at this
    exact h3 (i, v) this
  · rw [List.getElem?_append_right (by omega), List.getElem?_replicate] at hi
    split at hi <;> cases hi
/-! what the tables say, kept while the program runs -/
def pm_K (D : va_G) (s : State) : Prop := va_K D pm_cl [] s ∧ (∀ (own : String) (i : Nat) (x : MethodName) (host : String), Cond.methodLinkNest own i x host ∈ lw_tbl → va_Nw (.methodLinkNest own i x host) s) ∧ (∀ C : String, Cond.arrayOver (.object C) ∈ lw_tbl → va_AO C s)
theorem pm_K.warm {D : va_G} {s U : State} (hW : s.WarmedH U.vm) (h : pm_K D s) : pm_K D U := ⟨va_K.moved hW.alike h.1, fun own i x host hm => va_Nw.warmM hW (h.2.1 own i x host hm), fun C hm => va_AO.moved hW.alike (h.2.2 C hm)⟩
theorem pm_K.same {D : va_G} {s U : State} (hv : s.vm = U.vm) (h : pm_K D s) : pm_K D U := ⟨va_K.moved (by rw [hv]; exact Vm.Alike.refl U.vm) h.1, fun own i x host hm => va_Nw.same rfl hv (h.2.1 own i x host hm), fun C hm => va_AO.moved (by rw [hv]; exact Vm.Alike.refl U.vm) (h.2.2 C hm)⟩
def pm_gw : List Cond := lw_tbl.filter goodWord
def pm_ws (μ : pm_M) : List Cond := Cond.code μ.1 μ.2.1 μ.2.2.1 μ.2.2.2 :: pm_gw
def pm_rm (d mc ms : Nat) : Room := { frames := d, cells := mc, slots := ms, locals := 40 * d }
/-- what a frame of a method stands on -/
def pm_cx (D : va_G) (d : Nat) (μ : pm_M) (p : Program) (R : Room) (s : State) (m : MethodId) (args : Array Value) (meth : Method) (c : Code) : Prop :=
  p.tables.exec = Jvm.exec ∧ c.code = μ.2.1 ∧ meth.sig.returnType = μ.2.2.2 ∧ c.maxLocals = μ.2.2.1 ∧ s.vm.findClass μ.1.cls = some m.cls ∧ (∀ w ∈ pm_gw, w.before args s = true) ∧ meth.locks = false ∧ (μ.1.name = "<init>" → meth.name = "<init>") ∧ pm_K D s ∧ d ≤ R.frames ∧ 40 * d ≤ R.locals
def pm_ret : Option FieldType → Instr := fun t => match t with
  | none => .return_
  | some .long => .lreturn
  | some (.object _) => .areturn
  | some (.array _) => .areturn
  | some _ => .ireturn
def pm_end (B : Nat) (D : va_G) (μ : pm_M) (r : Option Value) (h1 : pm_H) (p : Program) (l : Launch) (e : Env) (R : Room) (s : State) (m : MethodId) (args : Array Value) (below : List Frame) (meth : Method) (c : Code) (n0 w0 : Nat) (Q : State → Prop) : Prop :=
  ∀ (H : Heap) (locs : List Loc) (lsA : Array Slot) (pc : Nat), decode μ.2.1 pc = .ok (pm_ret μ.2.2.2, 1) → pm_R B D s H h1 → (∀ q ∈ locs, B ≤ q.base) → W p l e R s m args below meth c H locs (h1.1 - n0) (h1.2.1 - w0) Q (F0 m pc lsA r.toList)
/-- from here the frame comes to its end: with the answer r, and the heap h1 -/
def EX (B : Nat) (D : va_G) (d : Nat) (μ : pm_M) (pc : Nat) (ls : pm_Ls) (st : List Value) (h : pm_H) (r : Option Value) (h1 : pm_H) : Prop :=
  (h.1 ≤ h1.1 ∧ h.2.1 ≤ h1.2.1) ∧ ∀ (p : Program) (l : Launch) (e : Env) (R : Room) (s : State) (m : MethodId) (args : Array Value) (below : List Frame) (meth : Method) (c : Code) (H : Heap) (locs : List Loc) (lsA : Array Slot) (n0 w0 : Nat) (Q : State → Prop),
    pm_cx D d μ p R s m args meth c → pm_L lsA μ.2.2.1 ls → pm_R B D s H h → (∀ q ∈ locs, B ≤ q.base) → n0 ≤ h.1 → w0 ≤ h.2.1 → h1.1 - n0 ≤ R.cells → h1.2.1 - w0 ≤ R.slots → pm_end B D μ r h1 p l e R s m args below meth c n0 w0 Q →
      W p l e R s m args below meth c H locs (h.1 - n0) (h.2.1 - w0) Q (F0 m pc lsA st)
/-- a method's contract: from the heap h it comes to the heap h1, with the answer r -/
def CT (B : Nat) (D : va_G) (d : Nat) (μ : pm_M) (as : List Value) (h : pm_H) (r : Option Value) (h1 : pm_H) : Prop :=
  (h.1 ≤ h1.1 ∧ h.2.1 ≤ h1.2.1) ∧ ∀ l : Launch, Met l μ.1 (pm_ws μ) (pm_rm d (h1.1 - h.1) (h1.2.1 - h.2.1)) (fun a U => a = as.toArray ∧ pm_K D U ∧ pm_R B D U U.heap h) (fun _ _ o t => o = .returned r ∧ pm_R B D t t.heap h1) (h1.1 - h.1) (h1.2.1 - h.2.1) (fun q => B ≤ q)
/-- the answer is of the kind that the method gives -/
def pm_rok : Option FieldType → Option Value → Prop := fun t r => match t, r with
  | none, none => True
  | some .int, some (.int _) => True
  | some .boolean, some (.int v) => v = 0 ∨ v = 1
  | some .long, some (.long _) => True
  | some (.object _), some .null => True
  | some (.object _), some (.ref _) => True
  | _, _ => False
theorem pm_bool_nar {v : Int32} (h : v = 0 ∨ v = 1) : narrow .boolean (.int v) = .int v := by
  rcases h with rfl | rfl <;> rfl
set_option maxHeartbeats 1000000 in
theorem CT.of {B : Nat} {D : va_G} {d : Nat} {μ : pm_M} {as : List Value} {h h1 : pm_H} {r : Option Value} (ls : pm_Ls) (hls : pm_ent μ.2.2.1 as = ls) (hlen : (pm_sl as).length ≤ μ.2.2.1) (hy : plainName μ.1.cls = true) (hr : pm_rok μ.2.2.2 r) (k : EX B D d μ 0 ls [] h r h1) : CT B D d μ as h r h1 := by
  subst hls
  refine ⟨k.1, fun l => ?_⟩
  refine Met.ofW (cc := μ.2.1) (maxL := μ.2.2.1) (ret := μ.2.2.2) (ws' := pm_gw) hy rfl ?_
  intro p e s m args below meth c s₁ Bd hml hv
  obtain ⟨rfl, hK, hR⟩ := hv
  have hts : ∀ w ∈ pm_ws μ, w.before as.toArray s = true := atoms_spec (ws := pm_ws μ) Bd.pre
  have hown : s.vm.findClass μ.1.cls = some m.cls := findClass_of_methodNamed Bd.named
  have hname : meth.name = μ.1.name := (name_of_methodNamed Bd.named Bd.method).1
  have hl := pm_L.entry as hlen
  rw [lg_entry_eq]
  generalize (lg_sl as ++ List.replicate (μ.2.2.1 - (lg_sl as).length) Slot.unset).toArray = lsA at hl ⊢
  have hx := Bd.exec
  have hb := Bd.bytes
  have hret := Bd.returns
  have hlocks := Bd.notSynchronized
  have key := k.2 p l e (headSpec (pm_ws μ) (pm_rm d (h1.1 - h.1) (h1.2.1 - h.2.1))).room s m as.toArray below meth c s.heap [] lsA h.1 h.2.1
    (MQ below (fun _ _ o t => o = .returned r ∧ pm_R B D t t.heap h1) as.toArray s (h1.1 - h.1) (h1.2.1 - h.2.1) (fun q => B ≤ q))
    ⟨hx, hb, hret, hml, hown, fun w hw => hts w (List.mem_cons_of_mem _ hw), hlocks, fun h => hname.trans h, hK, Nat.le_refl _, Nat.le_refl _⟩ hl hR (fun q hq => by cases hq) (Nat.le_refl _) (Nat.le_refl _) (Nat.le_refl _) (Nat.le_refl _) ?_
  · rw [Nat.sub_self, Nat.sub_self] at key
    exact key
  · intro H locs lsB pc hd hR1 hlo
    have hq : ∀ t : State, t.heap = H → s.WarmedH t.vm → (Outcome.returned r = .returned r ∧ pm_R B D t t.heap h1) := fun t ht hW => ⟨rfl, by rw [ht]; exact hR1.moved hW.alike⟩
    revert hd hret hr
    generalize hμ : μ.2.2.2 = ty
    intro hr hret hd
    match ty, r, hr with
    | none, none, _ => exact W.vret hx hb hret hq hlo hd hlocks
    | some .int, some (.int v), _ => exact W.iret (v := v) hx hb hret hq hlo hd hlocks
    | some .boolean, some (.int v), hr => exact W.zret (v := v) hx hb hret (pm_bool_nar hr) hq hlo hd hlocks
    | some .long, some (.long v), _ => exact W.lret (v := v) hx hb hret hq hlo hd hlocks
    | some (.object n), some .null, _ => exact W.aret (v := .null) hx hb hret (Or.inl ⟨n, rfl⟩) (Or.inl rfl) hq hlo hd hlocks
    | some (.object n), some (.ref a), _ => exact W.aret (v := .ref a) hx hb hret (Or.inl ⟨n, rfl⟩) (Or.inr ⟨a, rfl⟩) hq hlo hd hlocks
section PX
variable {B : Nat} {D : va_G} {d : Nat} {μ : pm_M} {pc : Nat} {ls : pm_Ls} {st : List Value} {h : pm_H} {r : Option Value} {h1 : pm_H}

theorem px_iconst {n : Int} {v : Int32} (hd : decode μ.2.1 pc = .ok (.iconst n, 1)) (hv : Int32.ofInt n = v) (kk : EX B D d μ (pc + 1) ls (.int v :: st) h r h1) : EX B D d μ pc ls (st) h r h1 := by
  refine ⟨kk.1, fun p l e R s m args below meth c H locs lsA n0 w0 Q cx hl hR hlo e1 e2 e3 e4 hq => ?_⟩
  exact lv_iconst cx.1 cx.2.1 hd hv (kk.2 p l e R s m args below meth c H locs lsA n0 w0 Q cx hl hR hlo e1 e2 e3 e4 hq)
theorem px_bipush {n : Int} {v : Int32} (hd : decode μ.2.1 pc = .ok (.bipush n, 2)) (hv : (Int8.ofInt n).toInt32 = v) (kk : EX B D d μ (pc + 2) ls (.int v :: st) h r h1) : EX B D d μ pc ls (st) h r h1 := by
  refine ⟨kk.1, fun p l e R s m args below meth c H locs lsA n0 w0 Q cx hl hR hlo e1 e2 e3 e4 hq => ?_⟩
  exact lv_bipush cx.1 cx.2.1 hd hv (kk.2 p l e R s m args below meth c H locs lsA n0 w0 Q cx hl hR hlo e1 e2 e3 e4 hq)
theorem px_sipush {n : Int} {v : Int32} (hd : decode μ.2.1 pc = .ok (.sipush n, 3)) (hv : (Int16.ofInt n).toInt32 = v) (kk : EX B D d μ (pc + 3) ls (.int v :: st) h r h1) : EX B D d μ pc ls (st) h r h1 := by
  refine ⟨kk.1, fun p l e R s m args below meth c H locs lsA n0 w0 Q cx hl hR hlo e1 e2 e3 e4 hq => ?_⟩
  exact lv_sipush cx.1 cx.2.1 hd hv (kk.2 p l e R s m args below meth c H locs lsA n0 w0 Q cx hl hR hlo e1 e2 e3 e4 hq)
theorem px_lconst {n : Fin 2} {v : Int64} (hd : decode μ.2.1 pc = .ok (.lconst n, 1)) (hv : Int64.ofNat (n : Nat) = v) (kk : EX B D d μ (pc + 1) ls (.long v :: st) h r h1) : EX B D d μ pc ls (st) h r h1 := by
  refine ⟨kk.1, fun p l e R s m args below meth c H locs lsA n0 w0 Q cx hl hR hlo e1 e2 e3 e4 hq => ?_⟩
  exact lv_lconst cx.1 cx.2.1 hd hv (kk.2 p l e R s m args below meth c H locs lsA n0 w0 Q cx hl hR hlo e1 e2 e3 e4 hq)
theorem px_ldc {i : Nat} {v : Int32} (hd : decode μ.2.1 pc = .ok (.ldc i, 2)) (hc : Cond.constant μ.1.cls i v ∈ pm_gw) (kk : EX B D d μ (pc + 2) ls (.int v :: st) h r h1) : EX B D d μ pc ls (st) h r h1 := by
  refine ⟨kk.1, fun p l e R s m args below meth c H locs lsA n0 w0 Q cx hl hR hlo e1 e2 e3 e4 hq => ?_⟩
  exact lv_ldc cx.1 cx.2.1 cx.2.2.2.2.1 (cx.2.2.2.2.2.1 _ hc) hd (kk.2 p l e R s m args below meth c H locs lsA n0 w0 Q cx hl hR hlo e1 e2 e3 e4 hq)
theorem px_ldc2 {i : Nat} {v : Int64} (hd : decode μ.2.1 pc = .ok (.ldc2_w i, 3)) (hc : Cond.constantLong μ.1.cls i v ∈ pm_gw) (kk : EX B D d μ (pc + 3) ls (.long v :: st) h r h1) : EX B D d μ pc ls (st) h r h1 := by
  refine ⟨kk.1, fun p l e R s m args below meth c H locs lsA n0 w0 Q cx hl hR hlo e1 e2 e3 e4 hq => ?_⟩
  exact lv_ldc2 cx.1 cx.2.1 cx.2.2.2.2.1 (cx.2.2.2.2.2.1 _ hc) hd (kk.2 p l e R s m args below meth c H locs lsA n0 w0 Q cx hl hR hlo e1 e2 e3 e4 hq)
theorem px_iload_n {k : Fin 4} {x : Int32} (hd : decode μ.2.1 pc = .ok (.iload_n k, 1)) (hv : ls[(k : Nat)]? = some (some (.int x))) (kk : EX B D d μ (pc + 1) ls (.int x :: st) h r h1) : EX B D d μ pc ls (st) h r h1 := by
  refine ⟨kk.1, fun p l e R s m args below meth c H locs lsA n0 w0 Q cx hl hR hlo e1 e2 e3 e4 hq => ?_⟩
  exact lv_iload_n cx.1 cx.2.1 hd rfl (hl.2.2.2 _ _ hv) (kk.2 p l e R s m args below meth c H locs lsA n0 w0 Q cx hl hR hlo e1 e2 e3 e4 hq)
theorem px_iload {i : Nat} {x : Int32} (hd : decode μ.2.1 pc = .ok (.iload i, 2)) (hv : ls[i]? = some (some (.int x))) (kk : EX B D d μ (pc + 2) ls (.int x :: st) h r h1) : EX B D d μ pc ls (st) h r h1 := by
  refine ⟨kk.1, fun p l e R s m args below meth c H locs lsA n0 w0 Q cx hl hR hlo e1 e2 e3 e4 hq => ?_⟩
  exact lv_iload cx.1 cx.2.1 hd (hl.2.2.2 _ _ hv) (kk.2 p l e R s m args below meth c H locs lsA n0 w0 Q cx hl hR hlo e1 e2 e3 e4 hq)
theorem px_lload_n {k : Fin 4} {x : Int64} (hd : decode μ.2.1 pc = .ok (.lload_n k, 1)) (hv : ls[(k : Nat)]? = some (some (.long x))) (kk : EX B D d μ (pc + 1) ls (.long x :: st) h r h1) : EX B D d μ pc ls (st) h r h1 := by
  refine ⟨kk.1, fun p l e R s m args below meth c H locs lsA n0 w0 Q cx hl hR hlo e1 e2 e3 e4 hq => ?_⟩
  exact lv_lload_n cx.1 cx.2.1 hd rfl (hl.2.2.2 _ _ hv) (kk.2 p l e R s m args below meth c H locs lsA n0 w0 Q cx hl hR hlo e1 e2 e3 e4 hq)
theorem px_lload {i : Nat} {x : Int64} (hd : decode μ.2.1 pc = .ok (.lload i, 2)) (hv : ls[i]? = some (some (.long x))) (kk : EX B D d μ (pc + 2) ls (.long x :: st) h r h1) : EX B D d μ pc ls (st) h r h1 := by
  refine ⟨kk.1, fun p l e R s m args below meth c H locs lsA n0 w0 Q cx hl hR hlo e1 e2 e3 e4 hq => ?_⟩
  exact lv_lload cx.1 cx.2.1 hd (hl.2.2.2 _ _ hv) (kk.2 p l e R s m args below meth c H locs lsA n0 w0 Q cx hl hR hlo e1 e2 e3 e4 hq)
theorem px_aload_n {k : Fin 4} {x : Nat} (hd : decode μ.2.1 pc = .ok (.aload_n k, 1)) (hv : ls[(k : Nat)]? = some (some (.ref x))) (kk : EX B D d μ (pc + 1) ls (.ref x :: st) h r h1) : EX B D d μ pc ls (st) h r h1 := by
  refine ⟨kk.1, fun p l e R s m args below meth c H locs lsA n0 w0 Q cx hl hR hlo e1 e2 e3 e4 hq => ?_⟩
  exact lv_aload_n cx.1 cx.2.1 hd rfl (hl.2.2.2 _ _ hv) (kk.2 p l e R s m args below meth c H locs lsA n0 w0 Q cx hl hR hlo e1 e2 e3 e4 hq)
theorem px_aload {i : Nat} {x : Nat} (hd : decode μ.2.1 pc = .ok (.aload i, 2)) (hv : ls[i]? = some (some (.ref x))) (kk : EX B D d μ (pc + 2) ls (.ref x :: st) h r h1) : EX B D d μ pc ls (st) h r h1 := by
  refine ⟨kk.1, fun p l e R s m args below meth c H locs lsA n0 w0 Q cx hl hR hlo e1 e2 e3 e4 hq => ?_⟩
  exact lv_aload cx.1 cx.2.1 hd (hl.2.2.2 _ _ hv) (kk.2 p l e R s m args below meth c H locs lsA n0 w0 Q cx hl hR hlo e1 e2 e3 e4 hq)
theorem px_aload_nN {k : Fin 4} (hd : decode μ.2.1 pc = .ok (.aload_n k, 1)) (hv : ls[(k : Nat)]? = some (some .null)) (kk : EX B D d μ (pc + 1) ls (.null :: st) h r h1) : EX B D d μ pc ls (st) h r h1 := by
  refine ⟨kk.1, fun p l e R s m args below meth c H locs lsA n0 w0 Q cx hl hR hlo e1 e2 e3 e4 hq => ?_⟩
  exact lv_aload_nN cx.1 cx.2.1 hd rfl (hl.2.2.2 _ _ hv) (kk.2 p l e R s m args below meth c H locs lsA n0 w0 Q cx hl hR hlo e1 e2 e3 e4 hq)
theorem px_aloadN {i : Nat} (hd : decode μ.2.1 pc = .ok (.aload i, 2)) (hv : ls[i]? = some (some .null)) (kk : EX B D d μ (pc + 2) ls (.null :: st) h r h1) : EX B D d μ pc ls (st) h r h1 := by
  refine ⟨kk.1, fun p l e R s m args below meth c H locs lsA n0 w0 Q cx hl hR hlo e1 e2 e3 e4 hq => ?_⟩
  exact lv_aloadN cx.1 cx.2.1 hd (hl.2.2.2 _ _ hv) (kk.2 p l e R s m args below meth c H locs lsA n0 w0 Q cx hl hR hlo e1 e2 e3 e4 hq)
theorem px_null  (hd : decode μ.2.1 pc = .ok (.aconst_null, 1)) (kk : EX B D d μ (pc + 1) ls (.null :: st) h r h1) : EX B D d μ pc ls (st) h r h1 := by
  refine ⟨kk.1, fun p l e R s m args below meth c H locs lsA n0 w0 Q cx hl hR hlo e1 e2 e3 e4 hq => ?_⟩
  exact lv_null cx.1 cx.2.1 hd (kk.2 p l e R s m args below meth c H locs lsA n0 w0 Q cx hl hR hlo e1 e2 e3 e4 hq)
theorem px_iadd {x y : Int32} (hd : decode μ.2.1 pc = .ok (.iadd, 1)) (kk : EX B D d μ (pc + 1) ls (.int (x + y) :: st) h r h1) : EX B D d μ pc ls (.int y :: .int x :: st) h r h1 := by
  refine ⟨kk.1, fun p l e R s m args below meth c H locs lsA n0 w0 Q cx hl hR hlo e1 e2 e3 e4 hq => ?_⟩
  exact lv_iadd cx.1 cx.2.1 hd (kk.2 p l e R s m args below meth c H locs lsA n0 w0 Q cx hl hR hlo e1 e2 e3 e4 hq)
theorem px_isub {x y : Int32} (hd : decode μ.2.1 pc = .ok (.isub, 1)) (kk : EX B D d μ (pc + 1) ls (.int (x - y) :: st) h r h1) : EX B D d μ pc ls (.int y :: .int x :: st) h r h1 := by
  refine ⟨kk.1, fun p l e R s m args below meth c H locs lsA n0 w0 Q cx hl hR hlo e1 e2 e3 e4 hq => ?_⟩
  exact lv_isub cx.1 cx.2.1 hd (kk.2 p l e R s m args below meth c H locs lsA n0 w0 Q cx hl hR hlo e1 e2 e3 e4 hq)
theorem px_imul {x y : Int32} (hd : decode μ.2.1 pc = .ok (.imul, 1)) (kk : EX B D d μ (pc + 1) ls (.int (x * y) :: st) h r h1) : EX B D d μ pc ls (.int y :: .int x :: st) h r h1 := by
  refine ⟨kk.1, fun p l e R s m args below meth c H locs lsA n0 w0 Q cx hl hR hlo e1 e2 e3 e4 hq => ?_⟩
  exact lv_imul cx.1 cx.2.1 hd (kk.2 p l e R s m args below meth c H locs lsA n0 w0 Q cx hl hR hlo e1 e2 e3 e4 hq)
theorem px_iand {x y : Int32} (hd : decode μ.2.1 pc = .ok (.iand, 1)) (kk : EX B D d μ (pc + 1) ls (.int (x &&& y) :: st) h r h1) : EX B D d μ pc ls (.int y :: .int x :: st) h r h1 := by
  refine ⟨kk.1, fun p l e R s m args below meth c H locs lsA n0 w0 Q cx hl hR hlo e1 e2 e3 e4 hq => ?_⟩
  exact lv_iand cx.1 cx.2.1 hd (kk.2 p l e R s m args below meth c H locs lsA n0 w0 Q cx hl hR hlo e1 e2 e3 e4 hq)
theorem px_ior {x y : Int32} (hd : decode μ.2.1 pc = .ok (.ior, 1)) (kk : EX B D d μ (pc + 1) ls (.int (x ||| y) :: st) h r h1) : EX B D d μ pc ls (.int y :: .int x :: st) h r h1 := by
  refine ⟨kk.1, fun p l e R s m args below meth c H locs lsA n0 w0 Q cx hl hR hlo e1 e2 e3 e4 hq => ?_⟩
  exact lv_ior cx.1 cx.2.1 hd (kk.2 p l e R s m args below meth c H locs lsA n0 w0 Q cx hl hR hlo e1 e2 e3 e4 hq)
theorem px_ixor {x y : Int32} (hd : decode μ.2.1 pc = .ok (.ixor, 1)) (kk : EX B D d μ (pc + 1) ls (.int (x ^^^ y) :: st) h r h1) : EX B D d μ pc ls (.int y :: .int x :: st) h r h1 := by
  refine ⟨kk.1, fun p l e R s m args below meth c H locs lsA n0 w0 Q cx hl hR hlo e1 e2 e3 e4 hq => ?_⟩
  exact lv_ixor cx.1 cx.2.1 hd (kk.2 p l e R s m args below meth c H locs lsA n0 w0 Q cx hl hR hlo e1 e2 e3 e4 hq)
theorem px_ishl {x y : Int32} (hd : decode μ.2.1 pc = .ok (.ishl, 1)) (kk : EX B D d μ (pc + 1) ls (.int (x <<< (y &&& 31)) :: st) h r h1) : EX B D d μ pc ls (.int y :: .int x :: st) h r h1 := by
  refine ⟨kk.1, fun p l e R s m args below meth c H locs lsA n0 w0 Q cx hl hR hlo e1 e2 e3 e4 hq => ?_⟩
  exact lv_ishl cx.1 cx.2.1 hd (kk.2 p l e R s m args below meth c H locs lsA n0 w0 Q cx hl hR hlo e1 e2 e3 e4 hq)
theorem px_ishr {x y : Int32} (hd : decode μ.2.1 pc = .ok (.ishr, 1)) (kk : EX B D d μ (pc + 1) ls (.int (x >>> (y &&& 31)) :: st) h r h1) : EX B D d μ pc ls (.int y :: .int x :: st) h r h1 := by
  refine ⟨kk.1, fun p l e R s m args below meth c H locs lsA n0 w0 Q cx hl hR hlo e1 e2 e3 e4 hq => ?_⟩
  exact lv_ishr cx.1 cx.2.1 hd (kk.2 p l e R s m args below meth c H locs lsA n0 w0 Q cx hl hR hlo e1 e2 e3 e4 hq)
theorem px_idiv {x y : Int32} (hd : decode μ.2.1 pc = .ok (.idiv, 1)) (hne : ¬ y = 0) (kk : EX B D d μ (pc + 1) ls (.int (x / y) :: st) h r h1) : EX B D d μ pc ls (.int y :: .int x :: st) h r h1 := by
  refine ⟨kk.1, fun p l e R s m args below meth c H locs lsA n0 w0 Q cx hl hR hlo e1 e2 e3 e4 hq => ?_⟩
  exact lv_idiv cx.1 cx.2.1 hd hne (kk.2 p l e R s m args below meth c H locs lsA n0 w0 Q cx hl hR hlo e1 e2 e3 e4 hq)
theorem px_irem {x y : Int32} (hd : decode μ.2.1 pc = .ok (.irem, 1)) (hne : ¬ y = 0) (kk : EX B D d μ (pc + 1) ls (.int (x - x / y * y) :: st) h r h1) : EX B D d μ pc ls (.int y :: .int x :: st) h r h1 := by
  refine ⟨kk.1, fun p l e R s m args below meth c H locs lsA n0 w0 Q cx hl hR hlo e1 e2 e3 e4 hq => ?_⟩
  exact lv_irem cx.1 cx.2.1 hd hne (kk.2 p l e R s m args below meth c H locs lsA n0 w0 Q cx hl hR hlo e1 e2 e3 e4 hq)
theorem px_ladd {x y : Int64} (hd : decode μ.2.1 pc = .ok (.ladd, 1)) (kk : EX B D d μ (pc + 1) ls (.long (x + y) :: st) h r h1) : EX B D d μ pc ls (.long y :: .long x :: st) h r h1 := by
  refine ⟨kk.1, fun p l e R s m args below meth c H locs lsA n0 w0 Q cx hl hR hlo e1 e2 e3 e4 hq => ?_⟩
  exact lv_ladd cx.1 cx.2.1 hd (kk.2 p l e R s m args below meth c H locs lsA n0 w0 Q cx hl hR hlo e1 e2 e3 e4 hq)
theorem px_lsub {x y : Int64} (hd : decode μ.2.1 pc = .ok (.lsub, 1)) (kk : EX B D d μ (pc + 1) ls (.long (x - y) :: st) h r h1) : EX B D d μ pc ls (.long y :: .long x :: st) h r h1 := by
  refine ⟨kk.1, fun p l e R s m args below meth c H locs lsA n0 w0 Q cx hl hR hlo e1 e2 e3 e4 hq => ?_⟩
  exact lv_lsub cx.1 cx.2.1 hd (kk.2 p l e R s m args below meth c H locs lsA n0 w0 Q cx hl hR hlo e1 e2 e3 e4 hq)
theorem px_lmul {x y : Int64} (hd : decode μ.2.1 pc = .ok (.lmul, 1)) (kk : EX B D d μ (pc + 1) ls (.long (x * y) :: st) h r h1) : EX B D d μ pc ls (.long y :: .long x :: st) h r h1 := by
  refine ⟨kk.1, fun p l e R s m args below meth c H locs lsA n0 w0 Q cx hl hR hlo e1 e2 e3 e4 hq => ?_⟩
  exact lv_lmul cx.1 cx.2.1 hd (kk.2 p l e R s m args below meth c H locs lsA n0 w0 Q cx hl hR hlo e1 e2 e3 e4 hq)
theorem px_land {x y : Int64} (hd : decode μ.2.1 pc = .ok (.land, 1)) (kk : EX B D d μ (pc + 1) ls (.long (x &&& y) :: st) h r h1) : EX B D d μ pc ls (.long y :: .long x :: st) h r h1 := by
  refine ⟨kk.1, fun p l e R s m args below meth c H locs lsA n0 w0 Q cx hl hR hlo e1 e2 e3 e4 hq => ?_⟩
  exact lv_land cx.1 cx.2.1 hd (kk.2 p l e R s m args below meth c H locs lsA n0 w0 Q cx hl hR hlo e1 e2 e3 e4 hq)
theorem px_lor {x y : Int64} (hd : decode μ.2.1 pc = .ok (.lor, 1)) (kk : EX B D d μ (pc + 1) ls (.long (x ||| y) :: st) h r h1) : EX B D d μ pc ls (.long y :: .long x :: st) h r h1 := by
  refine ⟨kk.1, fun p l e R s m args below meth c H locs lsA n0 w0 Q cx hl hR hlo e1 e2 e3 e4 hq => ?_⟩
  exact lv_lor cx.1 cx.2.1 hd (kk.2 p l e R s m args below meth c H locs lsA n0 w0 Q cx hl hR hlo e1 e2 e3 e4 hq)
theorem px_ldiv {x y : Int64} (hd : decode μ.2.1 pc = .ok (.ldiv, 1)) (hne : ¬ y = 0) (kk : EX B D d μ (pc + 1) ls (.long (x / y) :: st) h r h1) : EX B D d μ pc ls (.long y :: .long x :: st) h r h1 := by
  refine ⟨kk.1, fun p l e R s m args below meth c H locs lsA n0 w0 Q cx hl hR hlo e1 e2 e3 e4 hq => ?_⟩
  exact lv_ldiv cx.1 cx.2.1 hd hne (kk.2 p l e R s m args below meth c H locs lsA n0 w0 Q cx hl hR hlo e1 e2 e3 e4 hq)
theorem px_lrem {x y : Int64} (hd : decode μ.2.1 pc = .ok (.lrem, 1)) (hne : ¬ y = 0) (kk : EX B D d μ (pc + 1) ls (.long (x - x / y * y) :: st) h r h1) : EX B D d μ pc ls (.long y :: .long x :: st) h r h1 := by
  refine ⟨kk.1, fun p l e R s m args below meth c H locs lsA n0 w0 Q cx hl hR hlo e1 e2 e3 e4 hq => ?_⟩
  exact lv_lrem cx.1 cx.2.1 hd hne (kk.2 p l e R s m args below meth c H locs lsA n0 w0 Q cx hl hR hlo e1 e2 e3 e4 hq)
theorem px_lshl {x : Int64} {y : Int32} (hd : decode μ.2.1 pc = .ok (.lshl, 1)) (kk : EX B D d μ (pc + 1) ls (.long (x <<< (y.toInt64 &&& 63)) :: st) h r h1) : EX B D d μ pc ls (.int y :: .long x :: st) h r h1 := by
  refine ⟨kk.1, fun p l e R s m args below meth c H locs lsA n0 w0 Q cx hl hR hlo e1 e2 e3 e4 hq => ?_⟩
  exact lv_lshl cx.1 cx.2.1 hd rfl (kk.2 p l e R s m args below meth c H locs lsA n0 w0 Q cx hl hR hlo e1 e2 e3 e4 hq)
theorem px_i2l {x : Int32} (hd : decode μ.2.1 pc = .ok (.i2l, 1)) (kk : EX B D d μ (pc + 1) ls (.long x.toInt64 :: st) h r h1) : EX B D d μ pc ls (.int x :: st) h r h1 := by
  refine ⟨kk.1, fun p l e R s m args below meth c H locs lsA n0 w0 Q cx hl hR hlo e1 e2 e3 e4 hq => ?_⟩
  exact lv_i2l cx.1 cx.2.1 hd rfl (kk.2 p l e R s m args below meth c H locs lsA n0 w0 Q cx hl hR hlo e1 e2 e3 e4 hq)
theorem px_l2i {x : Int64} (hd : decode μ.2.1 pc = .ok (.l2i, 1)) (kk : EX B D d μ (pc + 1) ls (.int x.toInt32 :: st) h r h1) : EX B D d μ pc ls (.long x :: st) h r h1 := by
  refine ⟨kk.1, fun p l e R s m args below meth c H locs lsA n0 w0 Q cx hl hR hlo e1 e2 e3 e4 hq => ?_⟩
  exact lv_l2i cx.1 cx.2.1 hd rfl (kk.2 p l e R s m args below meth c H locs lsA n0 w0 Q cx hl hR hlo e1 e2 e3 e4 hq)
theorem px_lcmp {x y : Int64} (hd : decode μ.2.1 pc = .ok (.lcmp, 1)) (kk : EX B D d μ (pc + 1) ls (.int (lg_cmp x y) :: st) h r h1) : EX B D d μ pc ls (.long y :: .long x :: st) h r h1 := by
  refine ⟨kk.1, fun p l e R s m args below meth c H locs lsA n0 w0 Q cx hl hR hlo e1 e2 e3 e4 hq => ?_⟩
  exact W.lcmp cx.1 cx.2.1 hd (kk.2 p l e R s m args below meth c H locs lsA n0 w0 Q cx hl hR hlo e1 e2 e3 e4 hq)
theorem px_dup {v : Value} (hd : decode μ.2.1 pc = .ok (.dup, 1)) (hc : v.category = 1) (kk : EX B D d μ (pc + 1) ls (v :: v :: st) h r h1) : EX B D d μ pc ls (v :: st) h r h1 := by
  refine ⟨kk.1, fun p l e R s m args below meth c H locs lsA n0 w0 Q cx hl hR hlo e1 e2 e3 e4 hq => ?_⟩
  exact lv_dup cx.1 cx.2.1 hd hc (kk.2 p l e R s m args below meth c H locs lsA n0 w0 Q cx hl hR hlo e1 e2 e3 e4 hq)
theorem px_pop {v : Value} (hd : decode μ.2.1 pc = .ok (.pop, 1)) (hc : v.category = 1) (kk : EX B D d μ (pc + 1) ls (st) h r h1) : EX B D d μ pc ls (v :: st) h r h1 := by
  refine ⟨kk.1, fun p l e R s m args below meth c H locs lsA n0 w0 Q cx hl hR hlo e1 e2 e3 e4 hq => ?_⟩
  exact lv_pop cx.1 cx.2.1 hd hc (kk.2 p l e R s m args below meth c H locs lsA n0 w0 Q cx hl hR hlo e1 e2 e3 e4 hq)
theorem px_if_eq {x : Int32} {off : Int} {tgt : Nat} (hd : decode μ.2.1 pc = .ok (.ifCond .eq off, 3)) (ht : (pc : Int) + off = (tgt : Int)) (kt : x = 0 → EX B D d μ tgt ls st h r h1) (kf : ¬ x = 0 → EX B D d μ (pc + 3) ls st h r h1) : EX B D d μ pc ls (.int x :: st) h r h1 := by
  refine ⟨?_, fun p l e R s m args below meth c H locs lsA n0 w0 Q cx hl hR hlo e1 e2 e3 e4 hq => ?_⟩
  · by_cases hc : x = 0
    · exact (kt hc).1
    · exact (kf hc).1
  · exact lv_if_eq cx.1 cx.2.1 hd ht (fun hc => (kt hc).2 p l e R s m args below meth c H locs lsA n0 w0 Q cx hl hR hlo e1 e2 e3 e4 hq) (fun hc => (kf hc).2 p l e R s m args below meth c H locs lsA n0 w0 Q cx hl hR hlo e1 e2 e3 e4 hq)
theorem px_icmp_eq {x y : Int32} {off : Int} {tgt : Nat} (hd : decode μ.2.1 pc = .ok (.if_icmp .eq off, 3)) (ht : (pc : Int) + off = (tgt : Int)) (kt : x = y → EX B D d μ tgt ls st h r h1) (kf : ¬ x = y → EX B D d μ (pc + 3) ls st h r h1) : EX B D d μ pc ls (.int y :: .int x :: st) h r h1 := by
  refine ⟨?_, fun p l e R s m args below meth c H locs lsA n0 w0 Q cx hl hR hlo e1 e2 e3 e4 hq => ?_⟩
  · by_cases hc : x = y
    · exact (kt hc).1
    · exact (kf hc).1
  · exact lv_icmp_eq cx.1 cx.2.1 hd ht (fun hc => (kt hc).2 p l e R s m args below meth c H locs lsA n0 w0 Q cx hl hR hlo e1 e2 e3 e4 hq) (fun hc => (kf hc).2 p l e R s m args below meth c H locs lsA n0 w0 Q cx hl hR hlo e1 e2 e3 e4 hq)
theorem px_if_ne {x : Int32} {off : Int} {tgt : Nat} (hd : decode μ.2.1 pc = .ok (.ifCond .ne off, 3)) (ht : (pc : Int) + off = (tgt : Int)) (kt : ¬ x = 0 → EX B D d μ tgt ls st h r h1) (kf : x = 0 → EX B D d μ (pc + 3) ls st h r h1) : EX B D d μ pc ls (.int x :: st) h r h1 := by
  refine ⟨?_, fun p l e R s m args below meth c H locs lsA n0 w0 Q cx hl hR hlo e1 e2 e3 e4 hq => ?_⟩
  · by_cases hc : x = 0
    · exact (kf hc).1
    · exact (kt hc).1
  · exact lv_if_ne cx.1 cx.2.1 hd ht (fun hc => (kt hc).2 p l e R s m args below meth c H locs lsA n0 w0 Q cx hl hR hlo e1 e2 e3 e4 hq) (fun hc => (kf hc).2 p l e R s m args below meth c H locs lsA n0 w0 Q cx hl hR hlo e1 e2 e3 e4 hq)
theorem px_icmp_ne {x y : Int32} {off : Int} {tgt : Nat} (hd : decode μ.2.1 pc = .ok (.if_icmp .ne off, 3)) (ht : (pc : Int) + off = (tgt : Int)) (kt : ¬ x = y → EX B D d μ tgt ls st h r h1) (kf : x = y → EX B D d μ (pc + 3) ls st h r h1) : EX B D d μ pc ls (.int y :: .int x :: st) h r h1 := by
  refine ⟨?_, fun p l e R s m args below meth c H locs lsA n0 w0 Q cx hl hR hlo e1 e2 e3 e4 hq => ?_⟩
  · by_cases hc : x = y
    · exact (kf hc).1
    · exact (kt hc).1
  · exact lv_icmp_ne cx.1 cx.2.1 hd ht (fun hc => (kt hc).2 p l e R s m args below meth c H locs lsA n0 w0 Q cx hl hR hlo e1 e2 e3 e4 hq) (fun hc => (kf hc).2 p l e R s m args below meth c H locs lsA n0 w0 Q cx hl hR hlo e1 e2 e3 e4 hq)
theorem px_if_lt {x : Int32} {off : Int} {tgt : Nat} (hd : decode μ.2.1 pc = .ok (.ifCond .lt off, 3)) (ht : (pc : Int) + off = (tgt : Int)) (kt : x < 0 → EX B D d μ tgt ls st h r h1) (kf : ¬ x < 0 → EX B D d μ (pc + 3) ls st h r h1) : EX B D d μ pc ls (.int x :: st) h r h1 := by
  refine ⟨?_, fun p l e R s m args below meth c H locs lsA n0 w0 Q cx hl hR hlo e1 e2 e3 e4 hq => ?_⟩
  · by_cases hc : x < 0
    · exact (kt hc).1
    · exact (kf hc).1
  · exact lv_if_lt cx.1 cx.2.1 hd ht (fun hc => (kt hc).2 p l e R s m args below meth c H locs lsA n0 w0 Q cx hl hR hlo e1 e2 e3 e4 hq) (fun hc => (kf hc).2 p l e R s m args below meth c H locs lsA n0 w0 Q cx hl hR hlo e1 e2 e3 e4 hq)
theorem px_icmp_lt {x y : Int32} {off : Int} {tgt : Nat} (hd : decode μ.2.1 pc = .ok (.if_icmp .lt off, 3)) (ht : (pc : Int) + off = (tgt : Int)) (kt : x < y → EX B D d μ tgt ls st h r h1) (kf : ¬ x < y → EX B D d μ (pc + 3) ls st h r h1) : EX B D d μ pc ls (.int y :: .int x :: st) h r h1 := by
  refine ⟨?_, fun p l e R s m args below meth c H locs lsA n0 w0 Q cx hl hR hlo e1 e2 e3 e4 hq => ?_⟩
  · by_cases hc : x < y
    · exact (kt hc).1
    · exact (kf hc).1
  · exact lv_icmp_lt cx.1 cx.2.1 hd ht (fun hc => (kt hc).2 p l e R s m args below meth c H locs lsA n0 w0 Q cx hl hR hlo e1 e2 e3 e4 hq) (fun hc => (kf hc).2 p l e R s m args below meth c H locs lsA n0 w0 Q cx hl hR hlo e1 e2 e3 e4 hq)
theorem px_if_ge {x : Int32} {off : Int} {tgt : Nat} (hd : decode μ.2.1 pc = .ok (.ifCond .ge off, 3)) (ht : (pc : Int) + off = (tgt : Int)) (kt : 0 ≤ x → EX B D d μ tgt ls st h r h1) (kf : ¬ 0 ≤ x → EX B D d μ (pc + 3) ls st h r h1) : EX B D d μ pc ls (.int x :: st) h r h1 := by
  refine ⟨?_, fun p l e R s m args below meth c H locs lsA n0 w0 Q cx hl hR hlo e1 e2 e3 e4 hq => ?_⟩
  · by_cases hc : 0 ≤ x
    · exact (kt hc).1
    · exact (kf hc).1
  · exact lv_if_ge cx.1 cx.2.1 hd ht (fun hc => (kt hc).2 p l e R s m args below meth c H locs lsA n0 w0 Q cx hl hR hlo e1 e2 e3 e4 hq) (fun hc => (kf hc).2 p l e R s m args below meth c H locs lsA n0 w0 Q cx hl hR hlo e1 e2 e3 e4 hq)
theorem px_icmp_ge {x y : Int32} {off : Int} {tgt : Nat} (hd : decode μ.2.1 pc = .ok (.if_icmp .ge off, 3)) (ht : (pc : Int) + off = (tgt : Int)) (kt : y ≤ x → EX B D d μ tgt ls st h r h1) (kf : ¬ y ≤ x → EX B D d μ (pc + 3) ls st h r h1) : EX B D d μ pc ls (.int y :: .int x :: st) h r h1 := by
  refine ⟨?_, fun p l e R s m args below meth c H locs lsA n0 w0 Q cx hl hR hlo e1 e2 e3 e4 hq => ?_⟩
  · by_cases hc : y ≤ x
    · exact (kt hc).1
    · exact (kf hc).1
  · exact lv_icmp_ge cx.1 cx.2.1 hd ht (fun hc => (kt hc).2 p l e R s m args below meth c H locs lsA n0 w0 Q cx hl hR hlo e1 e2 e3 e4 hq) (fun hc => (kf hc).2 p l e R s m args below meth c H locs lsA n0 w0 Q cx hl hR hlo e1 e2 e3 e4 hq)
theorem px_if_gt {x : Int32} {off : Int} {tgt : Nat} (hd : decode μ.2.1 pc = .ok (.ifCond .gt off, 3)) (ht : (pc : Int) + off = (tgt : Int)) (kt : 0 < x → EX B D d μ tgt ls st h r h1) (kf : ¬ 0 < x → EX B D d μ (pc + 3) ls st h r h1) : EX B D d μ pc ls (.int x :: st) h r h1 := by
  refine ⟨?_, fun p l e R s m args below meth c H locs lsA n0 w0 Q cx hl hR hlo e1 e2 e3 e4 hq => ?_⟩
  · by_cases hc : 0 < x
    · exact (kt hc).1
    · exact (kf hc).1
  · exact lv_if_gt cx.1 cx.2.1 hd ht (fun hc => (kt hc).2 p l e R s m args below meth c H locs lsA n0 w0 Q cx hl hR hlo e1 e2 e3 e4 hq) (fun hc => (kf hc).2 p l e R s m args below meth c H locs lsA n0 w0 Q cx hl hR hlo e1 e2 e3 e4 hq)
theorem px_icmp_gt {x y : Int32} {off : Int} {tgt : Nat} (hd : decode μ.2.1 pc = .ok (.if_icmp .gt off, 3)) (ht : (pc : Int) + off = (tgt : Int)) (kt : y < x → EX B D d μ tgt ls st h r h1) (kf : ¬ y < x → EX B D d μ (pc + 3) ls st h r h1) : EX B D d μ pc ls (.int y :: .int x :: st) h r h1 := by
  refine ⟨?_, fun p l e R s m args below meth c H locs lsA n0 w0 Q cx hl hR hlo e1 e2 e3 e4 hq => ?_⟩
  · by_cases hc : y < x
    · exact (kt hc).1
    · exact (kf hc).1
  · exact lv_icmp_gt cx.1 cx.2.1 hd ht (fun hc => (kt hc).2 p l e R s m args below meth c H locs lsA n0 w0 Q cx hl hR hlo e1 e2 e3 e4 hq) (fun hc => (kf hc).2 p l e R s m args below meth c H locs lsA n0 w0 Q cx hl hR hlo e1 e2 e3 e4 hq)
theorem px_if_le {x : Int32} {off : Int} {tgt : Nat} (hd : decode μ.2.1 pc = .ok (.ifCond .le off, 3)) (ht : (pc : Int) + off = (tgt : Int)) (kt : x ≤ 0 → EX B D d μ tgt ls st h r h1) (kf : ¬ x ≤ 0 → EX B D d μ (pc + 3) ls st h r h1) : EX B D d μ pc ls (.int x :: st) h r h1 := by
  refine ⟨?_, fun p l e R s m args below meth c H locs lsA n0 w0 Q cx hl hR hlo e1 e2 e3 e4 hq => ?_⟩
  · by_cases hc : x ≤ 0
    · exact (kt hc).1
    · exact (kf hc).1
  · exact lv_if_le cx.1 cx.2.1 hd ht (fun hc => (kt hc).2 p l e R s m args below meth c H locs lsA n0 w0 Q cx hl hR hlo e1 e2 e3 e4 hq) (fun hc => (kf hc).2 p l e R s m args below meth c H locs lsA n0 w0 Q cx hl hR hlo e1 e2 e3 e4 hq)
theorem px_icmp_le {x y : Int32} {off : Int} {tgt : Nat} (hd : decode μ.2.1 pc = .ok (.if_icmp .le off, 3)) (ht : (pc : Int) + off = (tgt : Int)) (kt : x ≤ y → EX B D d μ tgt ls st h r h1) (kf : ¬ x ≤ y → EX B D d μ (pc + 3) ls st h r h1) : EX B D d μ pc ls (.int y :: .int x :: st) h r h1 := by
  refine ⟨?_, fun p l e R s m args below meth c H locs lsA n0 w0 Q cx hl hR hlo e1 e2 e3 e4 hq => ?_⟩
  · by_cases hc : x ≤ y
    · exact (kt hc).1
    · exact (kf hc).1
  · exact lv_icmp_le cx.1 cx.2.1 hd ht (fun hc => (kt hc).2 p l e R s m args below meth c H locs lsA n0 w0 Q cx hl hR hlo e1 e2 e3 e4 hq) (fun hc => (kf hc).2 p l e R s m args below meth c H locs lsA n0 w0 Q cx hl hR hlo e1 e2 e3 e4 hq)
theorem px_goto  {off : Int} {tgt : Nat} (hd : decode μ.2.1 pc = .ok (.goto off, 3)) (ht : (pc : Int) + off = (tgt : Int)) (kk : EX B D d μ tgt ls st h r h1) : EX B D d μ pc ls (st) h r h1 := by
  refine ⟨kk.1, fun p l e R s m args below meth c H locs lsA n0 w0 Q cx hl hR hlo e1 e2 e3 e4 hq => ?_⟩
  exact lv_goto cx.1 cx.2.1 hd ht (kk.2 p l e R s m args below meth c H locs lsA n0 w0 Q cx hl hR hlo e1 e2 e3 e4 hq)
theorem px_ifnull_t  {off : Int} {tgt : Nat} (hd : decode μ.2.1 pc = .ok (.ifnull off, 3)) (ht : (pc : Int) + off = (tgt : Int)) (kk : EX B D d μ tgt ls st h r h1) : EX B D d μ pc ls (.null :: st) h r h1 := by
  refine ⟨kk.1, fun p l e R s m args below meth c H locs lsA n0 w0 Q cx hl hR hlo e1 e2 e3 e4 hq => ?_⟩
  exact lv_ifnullN cx.1 cx.2.1 hd ht (kk.2 p l e R s m args below meth c H locs lsA n0 w0 Q cx hl hR hlo e1 e2 e3 e4 hq)
theorem px_ifnull_f {a : Nat} {off : Int} (hd : decode μ.2.1 pc = .ok (.ifnull off, 3)) (kk : EX B D d μ (pc + 3) ls st h r h1) : EX B D d μ pc ls (.ref a :: st) h r h1 := by
  refine ⟨kk.1, fun p l e R s m args below meth c H locs lsA n0 w0 Q cx hl hR hlo e1 e2 e3 e4 hq => ?_⟩
  exact lv_ifnull cx.1 cx.2.1 hd (kk.2 p l e R s m args below meth c H locs lsA n0 w0 Q cx hl hR hlo e1 e2 e3 e4 hq)
theorem px_ifnonnull_t {a : Nat} {off : Int} {tgt : Nat} (hd : decode μ.2.1 pc = .ok (.ifnonnull off, 3)) (ht : (pc : Int) + off = (tgt : Int)) (kk : EX B D d μ tgt ls st h r h1) : EX B D d μ pc ls (.ref a :: st) h r h1 := by
  refine ⟨kk.1, fun p l e R s m args below meth c H locs lsA n0 w0 Q cx hl hR hlo e1 e2 e3 e4 hq => ?_⟩
  exact lv_ifnonnull cx.1 cx.2.1 hd ht (kk.2 p l e R s m args below meth c H locs lsA n0 w0 Q cx hl hR hlo e1 e2 e3 e4 hq)
theorem px_ifnonnull_f  {off : Int} (hd : decode μ.2.1 pc = .ok (.ifnonnull off, 3)) (kk : EX B D d μ (pc + 3) ls st h r h1) : EX B D d μ pc ls (.null :: st) h r h1 := by
  refine ⟨kk.1, fun p l e R s m args below meth c H locs lsA n0 w0 Q cx hl hR hlo e1 e2 e3 e4 hq => ?_⟩
  exact lv_ifnonnullN cx.1 cx.2.1 hd (kk.2 p l e R s m args below meth c H locs lsA n0 w0 Q cx hl hR hlo e1 e2 e3 e4 hq)
theorem px_tableOut {dflt lo hi : Int} {offs : Array Int} {len : Nat} {x : Int32} {tgt : Nat} (hd : decode μ.2.1 pc = .ok (.tableswitch dflt lo hi offs, len)) (hx : x.toInt < lo ∨ hi < x.toInt) (ht : (pc : Int) + dflt = (tgt : Int)) (kk : EX B D d μ tgt ls st h r h1) : EX B D d μ pc ls (.int x :: st) h r h1 := by
  refine ⟨kk.1, fun p l e R s m args below meth c H locs lsA n0 w0 Q cx hl hR hlo e1 e2 e3 e4 hq => ?_⟩
  exact lv_tableOut cx.1 cx.2.1 hd hx ht (kk.2 p l e R s m args below meth c H locs lsA n0 w0 Q cx hl hR hlo e1 e2 e3 e4 hq)
theorem px_tableIn {dflt lo hi : Int} {offs : Array Int} {len : Nat} {x : Int32} {off : Int} {tgt : Nat} (hd : decode μ.2.1 pc = .ok (.tableswitch dflt lo hi offs, len)) (hx1 : ¬ x.toInt < lo) (hx2 : ¬ hi < x.toInt) (ho : offs[(x.toInt - lo).toNat]? = some off) (ht : (pc : Int) + off = (tgt : Int)) (kk : EX B D d μ tgt ls st h r h1) : EX B D d μ pc ls (.int x :: st) h r h1 := by
  refine ⟨kk.1, fun p l e R s m args below meth c H locs lsA n0 w0 Q cx hl hR hlo e1 e2 e3 e4 hq => ?_⟩
  exact lv_tableIn cx.1 cx.2.1 hd hx1 hx2 ho ht (kk.2 p l e R s m args below meth c H locs lsA n0 w0 Q cx hl hR hlo e1 e2 e3 e4 hq)

theorem px_istore_n {k : Fin 4} {x : Int32} (hn : ∀ z, 0 < (k : Nat) → ls[(k : Nat) - 1]? = some z → pm_nl z = true) (hi : (k : Nat) < ls.length) (hd : decode μ.2.1 pc = .ok (.istore_n k, 1)) (kk : EX B D d μ (pc + 1) (ls.set (k : Nat) (some (.int x))) st h r h1) : EX B D d μ pc ls (.int x :: st) h r h1 := by
  refine ⟨kk.1, fun p l e R s m args below meth c H locs lsA n0 w0 Q cx hl hR hlo e1 e2 e3 e4 hq => ?_⟩
  exact lv_istore_n cx.1 cx.2.1 hd rfl hl.has (by rw [← hl.2.2.1]; exact hi) rfl (fun lsB hB => kk.2 p l e R s m args below meth c H locs lsB n0 w0 Q cx (pm_L.put1 hl hn hB) hR hlo e1 e2 e3 e4 hq)
theorem px_istore {i : Nat} {x : Int32} (hn : ∀ z, 0 < i → ls[i - 1]? = some z → pm_nl z = true) (hi : i < ls.length) (hd : decode μ.2.1 pc = .ok (.istore i, 2)) (kk : EX B D d μ (pc + 2) (ls.set i (some (.int x))) st h r h1) : EX B D d μ pc ls (.int x :: st) h r h1 := by
  refine ⟨kk.1, fun p l e R s m args below meth c H locs lsA n0 w0 Q cx hl hR hlo e1 e2 e3 e4 hq => ?_⟩
  exact lv_istore cx.1 cx.2.1 hd hl.has (by rw [← hl.2.2.1]; exact hi) rfl (fun lsB hB => kk.2 p l e R s m args below meth c H locs lsB n0 w0 Q cx (pm_L.put1 hl hn hB) hR hlo e1 e2 e3 e4 hq)

theorem px_lstore_n {k : Fin 4} {x : Int64} (hn : ∀ z, 0 < (k : Nat) → ls[(k : Nat) - 1]? = some z → pm_nl z = true) (hi : (k : Nat) + 1 < ls.length) (hd : decode μ.2.1 pc = .ok (.lstore_n k, 1)) (kk : EX B D d μ (pc + 1) ((ls.set (k : Nat) (some (.long x))).set ((k : Nat) + 1) none) st h r h1) : EX B D d μ pc ls (.long x :: st) h r h1 := by
  refine ⟨kk.1, fun p l e R s m args below meth c H locs lsA n0 w0 Q cx hl hR hlo e1 e2 e3 e4 hq => ?_⟩
  exact lv_lstore_n cx.1 cx.2.1 hd rfl hl.has (by rw [← hl.2.2.1]; exact hi) rfl (fun lsB hB => kk.2 p l e R s m args below meth c H locs lsB n0 w0 Q cx (pm_L.put2 hl hn hB) hR hlo e1 e2 e3 e4 hq)
theorem px_lstore {i : Nat} {x : Int64} (hn : ∀ z, 0 < i → ls[i - 1]? = some z → pm_nl z = true) (hi : i + 1 < ls.length) (hd : decode μ.2.1 pc = .ok (.lstore i, 2)) (kk : EX B D d μ (pc + 2) ((ls.set i (some (.long x))).set (i + 1) none) st h r h1) : EX B D d μ pc ls (.long x :: st) h r h1 := by
  refine ⟨kk.1, fun p l e R s m args below meth c H locs lsA n0 w0 Q cx hl hR hlo e1 e2 e3 e4 hq => ?_⟩
  exact lv_lstore cx.1 cx.2.1 hd hl.has (by rw [← hl.2.2.1]; exact hi) rfl (fun lsB hB => kk.2 p l e R s m args below meth c H locs lsB n0 w0 Q cx (pm_L.put2 hl hn hB) hR hlo e1 e2 e3 e4 hq)

theorem px_astore_n {k : Fin 4} {x : Nat} (hn : ∀ z, 0 < (k : Nat) → ls[(k : Nat) - 1]? = some z → pm_nl z = true) (hi : (k : Nat) < ls.length) (hd : decode μ.2.1 pc = .ok (.astore_n k, 1)) (kk : EX B D d μ (pc + 1) (ls.set (k : Nat) (some (.ref x))) st h r h1) : EX B D d μ pc ls (.ref x :: st) h r h1 := by
  refine ⟨kk.1, fun p l e R s m args below meth c H locs lsA n0 w0 Q cx hl hR hlo e1 e2 e3 e4 hq => ?_⟩
  exact lv_astore_n cx.1 cx.2.1 hd rfl hl.has (by rw [← hl.2.2.1]; exact hi) rfl (fun lsB hB => kk.2 p l e R s m args below meth c H locs lsB n0 w0 Q cx (pm_L.put1 hl hn hB) hR hlo e1 e2 e3 e4 hq)
theorem px_astore {i : Nat} {x : Nat} (hn : ∀ z, 0 < i → ls[i - 1]? = some z → pm_nl z = true) (hi : i < ls.length) (hd : decode μ.2.1 pc = .ok (.astore i, 2)) (kk : EX B D d μ (pc + 2) (ls.set i (some (.ref x))) st h r h1) : EX B D d μ pc ls (.ref x :: st) h r h1 := by
  refine ⟨kk.1, fun p l e R s m args below meth c H locs lsA n0 w0 Q cx hl hR hlo e1 e2 e3 e4 hq => ?_⟩
  exact lv_astore cx.1 cx.2.1 hd hl.has (by rw [← hl.2.2.1]; exact hi) rfl (fun lsB hB => kk.2 p l e R s m args below meth c H locs lsB n0 w0 Q cx (pm_L.put1 hl hn hB) hR hlo e1 e2 e3 e4 hq)

theorem px_astoreN_n {k : Fin 4}  (hn : ∀ z, 0 < (k : Nat) → ls[(k : Nat) - 1]? = some z → pm_nl z = true) (hi : (k : Nat) < ls.length) (hd : decode μ.2.1 pc = .ok (.astore_n k, 1)) (kk : EX B D d μ (pc + 1) (ls.set (k : Nat) (some (.null))) st h r h1) : EX B D d μ pc ls (.null :: st) h r h1 := by
  refine ⟨kk.1, fun p l e R s m args below meth c H locs lsA n0 w0 Q cx hl hR hlo e1 e2 e3 e4 hq => ?_⟩
  exact lv_astore_nN cx.1 cx.2.1 hd rfl hl.has (by rw [← hl.2.2.1]; exact hi) rfl (fun lsB hB => kk.2 p l e R s m args below meth c H locs lsB n0 w0 Q cx (pm_L.put1 hl hn hB) hR hlo e1 e2 e3 e4 hq)
theorem px_astoreN {i : Nat}  (hn : ∀ z, 0 < i → ls[i - 1]? = some z → pm_nl z = true) (hi : i < ls.length) (hd : decode μ.2.1 pc = .ok (.astore i, 2)) (kk : EX B D d μ (pc + 2) (ls.set i (some (.null))) st h r h1) : EX B D d μ pc ls (.null :: st) h r h1 := by
  refine ⟨kk.1, fun p l e R s m args below meth c H locs lsA n0 w0 Q cx hl hR hlo e1 e2 e3 e4 hq => ?_⟩
  exact lv_astoreN cx.1 cx.2.1 hd hl.has (by rw [← hl.2.2.1]; exact hi) rfl (fun lsB hB => kk.2 p l e R s m args below meth c H locs lsB n0 w0 Q cx (pm_L.put1 hl hn hB) hR hlo e1 e2 e3 e4 hq)
theorem px_iinc {i : Nat} {n : Int} {x v : Int32} (hn : ∀ z, 0 < i → ls[i - 1]? = some z → pm_nl z = true) (hv : ls[i]? = some (some (.int x))) (hc : x + Int32.ofInt n = v) (hd : decode μ.2.1 pc = .ok (.iinc i n, 3)) (kk : EX B D d μ (pc + 3) (ls.set i (some (.int v))) st h r h1) : EX B D d μ pc ls st h r h1 := by
  refine ⟨kk.1, fun p l e R s m args below meth c H locs lsA n0 w0 Q cx hl hR hlo e1 e2 e3 e4 hq => ?_⟩
  obtain ⟨k, hk⟩ := List.getElem?_of_mem (pm_lv_mem.mpr hv)
  exact lv_iinc cx.1 cx.2.1 hd hl.has hk hc (by rw [← hl.2.2.1]; exact (List.getElem?_eq_some_iff.mp hv).1) rfl (fun lsB hB => kk.2 p l e R s m args below meth c H locs lsB n0 w0 Q cx (pm_L.put1 hl hn hB) hR hlo e1 e2 e3 e4 hq)
theorem px_istore0 {c : Option Value} {t : pm_Ls} {x : Int32} (hd : decode μ.2.1 pc = .ok (.istore_n 0, 1)) (kk : EX B D d μ (pc + 1) (some (.int x) :: t) st h r h1) : EX B D d μ pc (c :: t) (.int x :: st) h r h1 :=
  px_istore_n (k := 0) (ls := c :: t) (fun z hz => absurd hz (by decide)) (by show 0 < _; simp) hd kk
theorem px_lstore0 {c c2 : Option Value} {t : pm_Ls} {x : Int64} (hd : decode μ.2.1 pc = .ok (.lstore_n 0, 1)) (kk : EX B D d μ (pc + 1) (some (.long x) :: none :: t) st h r h1) : EX B D d μ pc (c :: c2 :: t) (.long x :: st) h r h1 :=
  px_lstore_n (k := 0) (ls := c :: c2 :: t) (fun z hz => absurd hz (by decide)) (by show 0 + 1 < _; simp) hd kk
theorem px_astore0 {c : Option Value} {t : pm_Ls} {x : Nat} (hd : decode μ.2.1 pc = .ok (.astore_n 0, 1)) (kk : EX B D d μ (pc + 1) (some (.ref x) :: t) st h r h1) : EX B D d μ pc (c :: t) (.ref x :: st) h r h1 :=
  px_astore_n (k := 0) (ls := c :: t) (fun z hz => absurd hz (by decide)) (by show 0 < _; simp) hd kk
theorem px_astoreN0 {c : Option Value} {t : pm_Ls}  (hd : decode μ.2.1 pc = .ok (.astore_n 0, 1)) (kk : EX B D d μ (pc + 1) (some (.null) :: t) st h r h1) : EX B D d μ pc (c :: t) (.null :: st) h r h1 :=
  px_astoreN_n (k := 0) (ls := c :: t) (fun z hz => absurd hz (by decide)) (by show 0 < _; simp) hd kk
theorem px_iinc0 {t : pm_Ls} {n : Int} {x v : Int32} (hc : x + Int32.ofInt n = v) (hd : decode μ.2.1 pc = .ok (.iinc 0 n, 3)) (kk : EX B D d μ (pc + 3) (some (.int v) :: t) st h r h1) : EX B D d μ pc (some (.int x) :: t) st h r h1 :=
  px_iinc (i := 0) (ls := some (.int x) :: t) (fun z hz => absurd hz (by decide)) (by simp) hc hd kk
theorem px_istore1 {a0 : Option Value} {c : Option Value} {t : pm_Ls} {x : Int32} (hb : pm_nl a0 = true) (hd : decode μ.2.1 pc = .ok (.istore_n 1, 1)) (kk : EX B D d μ (pc + 1) (a0 :: some (.int x) :: t) st h r h1) : EX B D d μ pc (a0 :: c :: t) (.int x :: st) h r h1 :=
  px_istore_n (k := 1) (ls := a0 :: c :: t) (fun z hz he => by cases he; exact hb) (by show 1 < _; simp) hd kk
theorem px_lstore1 {a0 : Option Value} {c c2 : Option Value} {t : pm_Ls} {x : Int64} (hb : pm_nl a0 = true) (hd : decode μ.2.1 pc = .ok (.lstore_n 1, 1)) (kk : EX B D d μ (pc + 1) (a0 :: some (.long x) :: none :: t) st h r h1) : EX B D d μ pc (a0 :: c :: c2 :: t) (.long x :: st) h r h1 :=
  px_lstore_n (k := 1) (ls := a0 :: c :: c2 :: t) (fun z hz he => by cases he; exact hb) (by show 1 + 1 < _; simp) hd kk
theorem px_astore1 {a0 : Option Value} {c : Option Value} {t : pm_Ls} {x : Nat} (hb : pm_nl a0 = true) (hd : decode μ.2.1 pc = .ok (.astore_n 1, 1)) (kk : EX B D d μ (pc + 1) (a0 :: some (.ref x) :: t) st h r h1) : EX B D d μ pc (a0 :: c :: t) (.ref x :: st) h r h1 :=
  px_astore_n (k := 1) (ls := a0 :: c :: t) (fun z hz he => by cases he; exact hb) (by show 1 < _; simp) hd kk
theorem px_astoreN1 {a0 : Option Value} {c : Option Value} {t : pm_Ls}  (hb : pm_nl a0 = true) (hd : decode μ.2.1 pc = .ok (.astore_n 1, 1)) (kk : EX B D d μ (pc + 1) (a0 :: some (.null) :: t) st h r h1) : EX B D d μ pc (a0 :: c :: t) (.null :: st) h r h1 :=
  px_astoreN_n (k := 1) (ls := a0 :: c :: t) (fun z hz he => by cases he; exact hb) (by show 1 < _; simp) hd kk
theorem px_iinc1 {a0 : Option Value} {t : pm_Ls} {n : Int} {x v : Int32} (hb : pm_nl a0 = true) (hc : x + Int32.ofInt n = v) (hd : decode μ.2.1 pc = .ok (.iinc 1 n, 3)) (kk : EX B D d μ (pc + 3) (a0 :: some (.int v) :: t) st h r h1) : EX B D d μ pc (a0 :: some (.int x) :: t) st h r h1 :=
  px_iinc (i := 1) (ls := a0 :: some (.int x) :: t) (fun z hz he => by cases he; exact hb) (by simp) hc hd kk
theorem px_istore2 {a0 a1 : Option Value} {c : Option Value} {t : pm_Ls} {x : Int32} (hb : pm_nl a1 = true) (hd : decode μ.2.1 pc = .ok (.istore_n 2, 1)) (kk : EX B D d μ (pc + 1) (a0 :: a1 :: some (.int x) :: t) st h r h1) : EX B D d μ pc (a0 :: a1 :: c :: t) (.int x :: st) h r h1 :=
  px_istore_n (k := 2) (ls := a0 :: a1 :: c :: t) (fun z hz he => by cases he; exact hb) (by show 2 < _; simp) hd kk
theorem px_lstore2 {a0 a1 : Option Value} {c c2 : Option Value} {t : pm_Ls} {x : Int64} (hb : pm_nl a1 = true) (hd : decode μ.2.1 pc = .ok (.lstore_n 2, 1)) (kk : EX B D d μ (pc + 1) (a0 :: a1 :: some (.long x) :: none :: t) st h r h1) : EX B D d μ pc (a0 :: a1 :: c :: c2 :: t) (.long x :: st) h r h1 :=
  px_lstore_n (k := 2) (ls := a0 :: a1 :: c :: c2 :: t) (fun z hz he => by cases he; exact hb) (by show 2 + 1 < _; simp) hd kk
theorem px_astore2 {a0 a1 : Option Value} {c : Option Value} {t : pm_Ls} {x : Nat} (hb : pm_nl a1 = true) (hd : decode μ.2.1 pc = .ok (.astore_n 2, 1)) (kk : EX B D d μ (pc + 1) (a0 :: a1 :: some (.ref x) :: t) st h r h1) : EX B D d μ pc (a0 :: a1 :: c :: t) (.ref x :: st) h r h1 :=
  px_astore_n (k := 2) (ls := a0 :: a1 :: c :: t) (fun z hz he => by cases he; exact hb) (by show 2 < _; simp) hd kk
theorem px_astoreN2 {a0 a1 : Option Value} {c : Option Value} {t : pm_Ls}  (hb : pm_nl a1 = true) (hd : decode μ.2.1 pc = .ok (.astore_n 2, 1)) (kk : EX B D d μ (pc + 1) (a0 :: a1 :: some (.null) :: t) st h r h1) : EX B D d μ pc (a0 :: a1 :: c :: t) (.null :: st) h r h1 :=
  px_astoreN_n (k := 2) (ls := a0 :: a1 :: c :: t) (fun z hz he => by cases he; exact hb) (by show 2 < _; simp) hd kk
theorem px_iinc2 {a0 a1 : Option Value} {t : pm_Ls} {n : Int} {x v : Int32} (hb : pm_nl a1 = true) (hc : x + Int32.ofInt n = v) (hd : decode μ.2.1 pc = .ok (.iinc 2 n, 3)) (kk : EX B D d μ (pc + 3) (a0 :: a1 :: some (.int v) :: t) st h r h1) : EX B D d μ pc (a0 :: a1 :: some (.int x) :: t) st h r h1 :=
  px_iinc (i := 2) (ls := a0 :: a1 :: some (.int x) :: t) (fun z hz he => by cases he; exact hb) (by simp) hc hd kk
theorem px_istore3 {a0 a1 a2 : Option Value} {c : Option Value} {t : pm_Ls} {x : Int32} (hb : pm_nl a2 = true) (hd : decode μ.2.1 pc = .ok (.istore_n 3, 1)) (kk : EX B D d μ (pc + 1) (a0 :: a1 :: a2 :: some (.int x) :: t) st h r h1) : EX B D d μ pc (a0 :: a1 :: a2 :: c :: t) (.int x :: st) h r h1 :=
  px_istore_n (k := 3) (ls := a0 :: a1 :: a2 :: c :: t) (fun z hz he => by cases he; exact hb) (by show 3 < _; simp) hd kk
theorem px_lstore3 {a0 a1 a2 : Option Value} {c c2 : Option Value} {t : pm_Ls} {x : Int64} (hb : pm_nl a2 = true) (hd : decode μ.2.1 pc = .ok (.lstore_n 3, 1)) (kk : EX B D d μ (pc + 1) (a0 :: a1 :: a2 :: some (.long x) :: none :: t) st h r h1) : EX B D d μ pc (a0 :: a1 :: a2 :: c :: c2 :: t) (.long x :: st) h r h1 :=
  px_lstore_n (k := 3) (ls := a0 :: a1 :: a2 :: c :: c2 :: t) (fun z hz he => by cases he; exact hb) (by show 3 + 1 < _; simp) hd kk
theorem px_astore3 {a0 a1 a2 : Option Value} {c : Option Value} {t : pm_Ls} {x : Nat} (hb : pm_nl a2 = true) (hd : decode μ.2.1 pc = .ok (.astore_n 3, 1)) (kk : EX B D d μ (pc + 1) (a0 :: a1 :: a2 :: some (.ref x) :: t) st h r h1) : EX B D d μ pc (a0 :: a1 :: a2 :: c :: t) (.ref x :: st) h r h1 :=
  px_astore_n (k := 3) (ls := a0 :: a1 :: a2 :: c :: t) (fun z hz he => by cases he; exact hb) (by show 3 < _; simp) hd kk
theorem px_astoreN3 {a0 a1 a2 : Option Value} {c : Option Value} {t : pm_Ls}  (hb : pm_nl a2 = true) (hd : decode μ.2.1 pc = .ok (.astore_n 3, 1)) (kk : EX B D d μ (pc + 1) (a0 :: a1 :: a2 :: some (.null) :: t) st h r h1) : EX B D d μ pc (a0 :: a1 :: a2 :: c :: t) (.null :: st) h r h1 :=
  px_astoreN_n (k := 3) (ls := a0 :: a1 :: a2 :: c :: t) (fun z hz he => by cases he; exact hb) (by show 3 < _; simp) hd kk
theorem px_iinc3 {a0 a1 a2 : Option Value} {t : pm_Ls} {n : Int} {x v : Int32} (hb : pm_nl a2 = true) (hc : x + Int32.ofInt n = v) (hd : decode μ.2.1 pc = .ok (.iinc 3 n, 3)) (kk : EX B D d μ (pc + 3) (a0 :: a1 :: a2 :: some (.int v) :: t) st h r h1) : EX B D d μ pc (a0 :: a1 :: a2 :: some (.int x) :: t) st h r h1 :=
  px_iinc (i := 3) (ls := a0 :: a1 :: a2 :: some (.int x) :: t) (fun z hz he => by cases he; exact hb) (by simp) hc hd kk
theorem px_istore4 {a0 a1 a2 a3 : Option Value} {c : Option Value} {t : pm_Ls} {x : Int32} (hb : pm_nl a3 = true) (hd : decode μ.2.1 pc = .ok (.istore 4, 2)) (kk : EX B D d μ (pc + 2) (a0 :: a1 :: a2 :: a3 :: some (.int x) :: t) st h r h1) : EX B D d μ pc (a0 :: a1 :: a2 :: a3 :: c :: t) (.int x :: st) h r h1 :=
  px_istore (i := 4) (ls := a0 :: a1 :: a2 :: a3 :: c :: t) (fun z hz he => by cases he; exact hb) (by show 4 < _; simp) hd kk
theorem px_lstore4 {a0 a1 a2 a3 : Option Value} {c c2 : Option Value} {t : pm_Ls} {x : Int64} (hb : pm_nl a3 = true) (hd : decode μ.2.1 pc = .ok (.lstore 4, 2)) (kk : EX B D d μ (pc + 2) (a0 :: a1 :: a2 :: a3 :: some (.long x) :: none :: t) st h r h1) : EX B D d μ pc (a0 :: a1 :: a2 :: a3 :: c :: c2 :: t) (.long x :: st) h r h1 :=
  px_lstore (i := 4) (ls := a0 :: a1 :: a2 :: a3 :: c :: c2 :: t) (fun z hz he => by cases he; exact hb) (by show 4 + 1 < _; simp) hd kk
theorem px_astore4 {a0 a1 a2 a3 : Option Value} {c : Option Value} {t : pm_Ls} {x : Nat} (hb : pm_nl a3 = true) (hd : decode μ.2.1 pc = .ok (.astore 4, 2)) (kk : EX B D d μ (pc + 2) (a0 :: a1 :: a2 :: a3 :: some (.ref x) :: t) st h r h1) : EX B D d μ pc (a0 :: a1 :: a2 :: a3 :: c :: t) (.ref x :: st) h r h1 :=
  px_astore (i := 4) (ls := a0 :: a1 :: a2 :: a3 :: c :: t) (fun z hz he => by cases he; exact hb) (by show 4 < _; simp) hd kk
theorem px_astoreN4 {a0 a1 a2 a3 : Option Value} {c : Option Value} {t : pm_Ls}  (hb : pm_nl a3 = true) (hd : decode μ.2.1 pc = .ok (.astore 4, 2)) (kk : EX B D d μ (pc + 2) (a0 :: a1 :: a2 :: a3 :: some (.null) :: t) st h r h1) : EX B D d μ pc (a0 :: a1 :: a2 :: a3 :: c :: t) (.null :: st) h r h1 :=
  px_astoreN (i := 4) (ls := a0 :: a1 :: a2 :: a3 :: c :: t) (fun z hz he => by cases he; exact hb) (by show 4 < _; simp) hd kk
theorem px_iinc4 {a0 a1 a2 a3 : Option Value} {t : pm_Ls} {n : Int} {x v : Int32} (hb : pm_nl a3 = true) (hc : x + Int32.ofInt n = v) (hd : decode μ.2.1 pc = .ok (.iinc 4 n, 3)) (kk : EX B D d μ (pc + 3) (a0 :: a1 :: a2 :: a3 :: some (.int v) :: t) st h r h1) : EX B D d μ pc (a0 :: a1 :: a2 :: a3 :: some (.int x) :: t) st h r h1 :=
  px_iinc (i := 4) (ls := a0 :: a1 :: a2 :: a3 :: some (.int x) :: t) (fun z hz he => by cases he; exact hb) (by simp) hc hd kk
theorem px_istore5 {a0 a1 a2 a3 a4 : Option Value} {c : Option Value} {t : pm_Ls} {x : Int32} (hb : pm_nl a4 = true) (hd : decode μ.2.1 pc = .ok (.istore 5, 2)) (kk : EX B D d μ (pc + 2) (a0 :: a1 :: a2 :: a3 :: a4 :: some (.int x) :: t) st h r h1) : EX B D d μ pc (a0 :: a1 :: a2 :: a3 :: a4 :: c :: t) (.int x :: st) h r h1 :=
  px_istore (i := 5) (ls := a0 :: a1 :: a2 :: a3 :: a4 :: c :: t) (fun z hz he => by cases he; exact hb) (by show 5 < _; simp) hd kk
theorem px_lstore5 {a0 a1 a2 a3 a4 : Option Value} {c c2 : Option Value} {t : pm_Ls} {x : Int64} (hb : pm_nl a4 = true) (hd : decode μ.2.1 pc = .ok (.lstore 5, 2)) (kk : EX B D d μ (pc + 2) (a0 :: a1 :: a2 :: a3 :: a4 :: some (.long x) :: none :: t) st h r h1) : EX B D d μ pc (a0 :: a1 :: a2 :: a3 :: a4 :: c :: c2 :: t) (.long x :: st) h r h1 :=
  px_lstore (i := 5) (ls := a0 :: a1 :: a2 :: a3 :: a4 :: c :: c2 :: t) (fun z hz he => by cases he; exact hb) (by show 5 + 1 < _; simp) hd kk
theorem px_astore5 {a0 a1 a2 a3 a4 : Option Value} {c : Option Value} {t : pm_Ls} {x : Nat} (hb : pm_nl a4 = true) (hd : decode μ.2.1 pc = .ok (.astore 5, 2)) (kk : EX B D d μ (pc + 2) (a0 :: a1 :: a2 :: a3 :: a4 :: some (.ref x) :: t) st h r h1) : EX B D d μ pc (a0 :: a1 :: a2 :: a3 :: a4 :: c :: t) (.ref x :: st) h r h1 :=
  px_astore (i := 5) (ls := a0 :: a1 :: a2 :: a3 :: a4 :: c :: t) (fun z hz he => by cases he; exact hb) (by show 5 < _; simp) hd kk
theorem px_astoreN5 {a0 a1 a2 a3 a4 : Option Value} {c : Option Value} {t : pm_Ls}  (hb : pm_nl a4 = true) (hd : decode μ.2.1 pc = .ok (.astore 5, 2)) (kk : EX B D d μ (pc + 2) (a0 :: a1 :: a2 :: a3 :: a4 :: some (.null) :: t) st h r h1) : EX B D d μ pc (a0 :: a1 :: a2 :: a3 :: a4 :: c :: t) (.null :: st) h r h1 :=
  px_astoreN (i := 5) (ls := a0 :: a1 :: a2 :: a3 :: a4 :: c :: t) (fun z hz he => by cases he; exact hb) (by show 5 < _; simp) hd kk
theorem px_iinc5 {a0 a1 a2 a3 a4 : Option Value} {t : pm_Ls} {n : Int} {x v : Int32} (hb : pm_nl a4 = true) (hc : x + Int32.ofInt n = v) (hd : decode μ.2.1 pc = .ok (.iinc 5 n, 3)) (kk : EX B D d μ (pc + 3) (a0 :: a1 :: a2 :: a3 :: a4 :: some (.int v) :: t) st h r h1) : EX B D d μ pc (a0 :: a1 :: a2 :: a3 :: a4 :: some (.int x) :: t) st h r h1 :=
  px_iinc (i := 5) (ls := a0 :: a1 :: a2 :: a3 :: a4 :: some (.int x) :: t) (fun z hz he => by cases he; exact hb) (by simp) hc hd kk
theorem px_istore6 {a0 a1 a2 a3 a4 a5 : Option Value} {c : Option Value} {t : pm_Ls} {x : Int32} (hb : pm_nl a5 = true) (hd : decode μ.2.1 pc = .ok (.istore 6, 2)) (kk : EX B D d μ (pc + 2) (a0 :: a1 :: a2 :: a3 :: a4 :: a5 :: some (.int x) :: t) st h r h1) : EX B D d μ pc (a0 :: a1 :: a2 :: a3 :: a4 :: a5 :: c :: t) (.int x :: st) h r h1 :=
  px_istore (i := 6) (ls := a0 :: a1 :: a2 :: a3 :: a4 :: a5 :: c :: t) (fun z hz he => by cases he; exact hb) (by show 6 < _; simp) hd kk
theorem px_lstore6 {a0 a1 a2 a3 a4 a5 : Option Value} {c c2 : Option Value} {t : pm_Ls} {x : Int64} (hb : pm_nl a5 = true) (hd : decode μ.2.1 pc = .ok (.lstore 6, 2)) (kk : EX B D d μ (pc + 2) (a0 :: a1 :: a2 :: a3 :: a4 :: a5 :: some (.long x) :: none :: t) st h r h1) : EX B D d μ pc (a0 :: a1 :: a2 :: a3 :: a4 :: a5 :: c :: c2 :: t) (.long x :: st) h r h1 :=
  px_lstore (i := 6) (ls := a0 :: a1 :: a2 :: a3 :: a4 :: a5 :: c :: c2 :: t) (fun z hz he => by cases he; exact hb) (by show 6 + 1 < _; simp) hd kk
theorem px_astore6 {a0 a1 a2 a3 a4 a5 : Option Value} {c : Option Value} {t : pm_Ls} {x : Nat} (hb : pm_nl a5 = true) (hd : decode μ.2.1 pc = .ok (.astore 6, 2)) (kk : EX B D d μ (pc + 2) (a0 :: a1 :: a2 :: a3 :: a4 :: a5 :: some (.ref x) :: t) st h r h1) : EX B D d μ pc (a0 :: a1 :: a2 :: a3 :: a4 :: a5 :: c :: t) (.ref x :: st) h r h1 :=
  px_astore (i := 6) (ls := a0 :: a1 :: a2 :: a3 :: a4 :: a5 :: c :: t) (fun z hz he => by cases he; exact hb) (by show 6 < _; simp) hd kk
theorem px_astoreN6 {a0 a1 a2 a3 a4 a5 : Option Value} {c : Option Value} {t : pm_Ls}  (hb : pm_nl a5 = true) (hd : decode μ.2.1 pc = .ok (.astore 6, 2)) (kk : EX B D d μ (pc + 2) (a0 :: a1 :: a2 :: a3 :: a4 :: a5 :: some (.null) :: t) st h r h1) : EX B D d μ pc (a0 :: a1 :: a2 :: a3 :: a4 :: a5 :: c :: t) (.null :: st) h r h1 :=
  px_astoreN (i := 6) (ls := a0 :: a1 :: a2 :: a3 :: a4 :: a5 :: c :: t) (fun z hz he => by cases he; exact hb) (by show 6 < _; simp) hd kk
theorem px_iinc6 {a0 a1 a2 a3 a4 a5 : Option Value} {t : pm_Ls} {n : Int} {x v : Int32} (hb : pm_nl a5 = true) (hc : x + Int32.ofInt n = v) (hd : decode μ.2.1 pc = .ok (.iinc 6 n, 3)) (kk : EX B D d μ (pc + 3) (a0 :: a1 :: a2 :: a3 :: a4 :: a5 :: some (.int v) :: t) st h r h1) : EX B D d μ pc (a0 :: a1 :: a2 :: a3 :: a4 :: a5 :: some (.int x) :: t) st h r h1 :=
  px_iinc (i := 6) (ls := a0 :: a1 :: a2 :: a3 :: a4 :: a5 :: some (.int x) :: t) (fun z hz he => by cases he; exact hb) (by simp) hc hd kk
theorem px_istore7 {a0 a1 a2 a3 a4 a5 a6 : Option Value} {c : Option Value} {t : pm_Ls} {x : Int32} (hb : pm_nl a6 = true) (hd : decode μ.2.1 pc = .ok (.istore 7, 2)) (kk : EX B D d μ (pc + 2) (a0 :: a1 :: a2 :: a3 :: a4 :: a5 :: a6 :: some (.int x) :: t) st h r h1) : EX B D d μ pc (a0 :: a1 :: a2 :: a3 :: a4 :: a5 :: a6 :: c :: t) (.int x :: st) h r h1 :=
  px_istore (i := 7) (ls := a0 :: a1 :: a2 :: a3 :: a4 :: a5 :: a6 :: c :: t) (fun z hz he => by cases he; exact hb) (by show 7 < _; simp) hd kk
theorem px_lstore7 {a0 a1 a2 a3 a4 a5 a6 : Option Value} {c c2 : Option Value} {t : pm_Ls} {x : Int64} (hb : pm_nl a6 = true) (hd : decode μ.2.1 pc = .ok (.lstore 7, 2)) (kk : EX B D d μ (pc + 2) (a0 :: a1 :: a2 :: a3 :: a4 :: a5 :: a6 :: some (.long x) :: none :: t) st h r h1) : EX B D d μ pc (a0 :: a1 :: a2 :: a3 :: a4 :: a5 :: a6 :: c :: c2 :: t) (.long x :: st) h r h1 :=
  px_lstore (i := 7) (ls := a0 :: a1 :: a2 :: a3 :: a4 :: a5 :: a6 :: c :: c2 :: t) (fun z hz he => by cases he; exact hb) (by show 7 + 1 < _; simp) hd kk
theorem px_astore7 {a0 a1 a2 a3 a4 a5 a6 : Option Value} {c : Option Value} {t : pm_Ls} {x : Nat} (hb : pm_nl a6 = true) (hd : decode μ.2.1 pc = .ok (.astore 7, 2)) (kk : EX B D d μ (pc + 2) (a0 :: a1 :: a2 :: a3 :: a4 :: a5 :: a6 :: some (.ref x) :: t) st h r h1) : EX B D d μ pc (a0 :: a1 :: a2 :: a3 :: a4 :: a5 :: a6 :: c :: t) (.ref x :: st) h r h1 :=
  px_astore (i := 7) (ls := a0 :: a1 :: a2 :: a3 :: a4 :: a5 :: a6 :: c :: t) (fun z hz he => by cases he; exact hb) (by show 7 < _; simp) hd kk
theorem px_astoreN7 {a0 a1 a2 a3 a4 a5 a6 : Option Value} {c : Option Value} {t : pm_Ls}  (hb : pm_nl a6 = true) (hd : decode μ.2.1 pc = .ok (.astore 7, 2)) (kk : EX B D d μ (pc + 2) (a0 :: a1 :: a2 :: a3 :: a4 :: a5 :: a6 :: some (.null) :: t) st h r h1) : EX B D d μ pc (a0 :: a1 :: a2 :: a3 :: a4 :: a5 :: a6 :: c :: t) (.null :: st) h r h1 :=
  px_astoreN (i := 7) (ls := a0 :: a1 :: a2 :: a3 :: a4 :: a5 :: a6 :: c :: t) (fun z hz he => by cases he; exact hb) (by show 7 < _; simp) hd kk
theorem px_iinc7 {a0 a1 a2 a3 a4 a5 a6 : Option Value} {t : pm_Ls} {n : Int} {x v : Int32} (hb : pm_nl a6 = true) (hc : x + Int32.ofInt n = v) (hd : decode μ.2.1 pc = .ok (.iinc 7 n, 3)) (kk : EX B D d μ (pc + 3) (a0 :: a1 :: a2 :: a3 :: a4 :: a5 :: a6 :: some (.int v) :: t) st h r h1) : EX B D d μ pc (a0 :: a1 :: a2 :: a3 :: a4 :: a5 :: a6 :: some (.int x) :: t) st h r h1 :=
  px_iinc (i := 7) (ls := a0 :: a1 :: a2 :: a3 :: a4 :: a5 :: a6 :: some (.int x) :: t) (fun z hz he => by cases he; exact hb) (by simp) hc hd kk
theorem px_istore8 {a0 a1 a2 a3 a4 a5 a6 a7 : Option Value} {c : Option Value} {t : pm_Ls} {x : Int32} (hb : pm_nl a7 = true) (hd : decode μ.2.1 pc = .ok (.istore 8, 2)) (kk : EX B D d μ (pc + 2) (a0 :: a1 :: a2 :: a3 :: a4 :: a5 :: a6 :: a7 :: some (.int x) :: t) st h r h1) : EX B D d μ pc (a0 :: a1 :: a2 :: a3 :: a4 :: a5 :: a6 :: a7 :: c :: t) (.int x :: st) h r h1 :=
  px_istore (i := 8) (ls := a0 :: a1 :: a2 :: a3 :: a4 :: a5 :: a6 :: a7 :: c :: t) (fun z hz he => by cases he; exact hb) (by show 8 < _; simp) hd kk
theorem px_lstore8 {a0 a1 a2 a3 a4 a5 a6 a7 : Option Value} {c c2 : Option Value} {t : pm_Ls} {x : Int64} (hb : pm_nl a7 = true) (hd : decode μ.2.1 pc = .ok (.lstore 8, 2)) (kk : EX B D d μ (pc + 2) (a0 :: a1 :: a2 :: a3 :: a4 :: a5 :: a6 :: a7 :: some (.long x) :: none :: t) st h r h1) : EX B D d μ pc (a0 :: a1 :: a2 :: a3 :: a4 :: a5 :: a6 :: a7 :: c :: c2 :: t) (.long x :: st) h r h1 :=
  px_lstore (i := 8) (ls := a0 :: a1 :: a2 :: a3 :: a4 :: a5 :: a6 :: a7 :: c :: c2 :: t) (fun z hz he => by cases he; exact hb) (by show 8 + 1 < _; simp) hd kk
theorem px_astore8 {a0 a1 a2 a3 a4 a5 a6 a7 : Option Value} {c : Option Value} {t : pm_Ls} {x : Nat} (hb : pm_nl a7 = true) (hd : decode μ.2.1 pc = .ok (.astore 8, 2)) (kk : EX B D d μ (pc + 2) (a0 :: a1 :: a2 :: a3 :: a4 :: a5 :: a6 :: a7 :: some (.ref x) :: t) st h r h1) : EX B D d μ pc (a0 :: a1 :: a2 :: a3 :: a4 :: a5 :: a6 :: a7 :: c :: t) (.ref x :: st) h r h1 :=
  px_astore (i := 8) (ls := a0 :: a1 :: a2 :: a3 :: a4 :: a5 :: a6 :: a7 :: c :: t) (fun z hz he => by cases he; exact hb) (by show 8 < _; simp) hd kk
theorem px_astoreN8 {a0 a1 a2 a3 a4 a5 a6 a7 : Option Value} {c : Option Value} {t : pm_Ls}  (hb : pm_nl a7 = true) (hd : decode μ.2.1 pc = .ok (.astore 8, 2)) (kk : EX B D d μ (pc + 2) (a0 :: a1 :: a2 :: a3 :: a4 :: a5 :: a6 :: a7 :: some (.null) :: t) st h r h1) : EX B D d μ pc (a0 :: a1 :: a2 :: a3 :: a4 :: a5 :: a6 :: a7 :: c :: t) (.null :: st) h r h1 :=
  px_astoreN (i := 8) (ls := a0 :: a1 :: a2 :: a3 :: a4 :: a5 :: a6 :: a7 :: c :: t) (fun z hz he => by cases he; exact hb) (by show 8 < _; simp) hd kk
theorem px_iinc8 {a0 a1 a2 a3 a4 a5 a6 a7 : Option Value} {t : pm_Ls} {n : Int} {x v : Int32} (hb : pm_nl a7 = true) (hc : x + Int32.ofInt n = v) (hd : decode μ.2.1 pc = .ok (.iinc 8 n, 3)) (kk : EX B D d μ (pc + 3) (a0 :: a1 :: a2 :: a3 :: a4 :: a5 :: a6 :: a7 :: some (.int v) :: t) st h r h1) : EX B D d μ pc (a0 :: a1 :: a2 :: a3 :: a4 :: a5 :: a6 :: a7 :: some (.int x) :: t) st h r h1 :=
  px_iinc (i := 8) (ls := a0 :: a1 :: a2 :: a3 :: a4 :: a5 :: a6 :: a7 :: some (.int x) :: t) (fun z hz he => by cases he; exact hb) (by simp) hc hd kk
theorem px_istore9 {a0 a1 a2 a3 a4 a5 a6 a7 a8 : Option Value} {c : Option Value} {t : pm_Ls} {x : Int32} (hb : pm_nl a8 = true) (hd : decode μ.2.1 pc = .ok (.istore 9, 2)) (kk : EX B D d μ (pc + 2) (a0 :: a1 :: a2 :: a3 :: a4 :: a5 :: a6 :: a7 :: a8 :: some (.int x) :: t) st h r h1) : EX B D d μ pc (a0 :: a1 :: a2 :: a3 :: a4 :: a5 :: a6 :: a7 :: a8 :: c :: t) (.int x :: st) h r h1 :=
  px_istore (i := 9) (ls := a0 :: a1 :: a2 :: a3 :: a4 :: a5 :: a6 :: a7 :: a8 :: c :: t) (fun z hz he => by cases he; exact hb) (by show 9 < _; simp) hd kk
theorem px_lstore9 {a0 a1 a2 a3 a4 a5 a6 a7 a8 : Option Value} {c c2 : Option Value} {t : pm_Ls} {x : Int64} (hb : pm_nl a8 = true) (hd : decode μ.2.1 pc = .ok (.lstore 9, 2)) (kk : EX B D d μ (pc + 2) (a0 :: a1 :: a2 :: a3 :: a4 :: a5 :: a6 :: a7 :: a8 :: some (.long x) :: none :: t) st h r h1) : EX B D d μ pc (a0 :: a1 :: a2 :: a3 :: a4 :: a5 :: a6 :: a7 :: a8 :: c :: c2 :: t) (.long x :: st) h r h1 :=
  px_lstore (i := 9) (ls := a0 :: a1 :: a2 :: a3 :: a4 :: a5 :: a6 :: a7 :: a8 :: c :: c2 :: t) (fun z hz he => by cases he; exact hb) (by show 9 + 1 < _; simp) hd kk
theorem px_astore9 {a0 a1 a2 a3 a4 a5 a6 a7 a8 : Option Value} {c : Option Value} {t : pm_Ls} {x : Nat} (hb : pm_nl a8 = true) (hd : decode μ.2.1 pc = .ok (.astore 9, 2)) (kk : EX B D d μ (pc + 2) (a0 :: a1 :: a2 :: a3 :: a4 :: a5 :: a6 :: a7 :: a8 :: some (.ref x) :: t) st h r h1) : EX B D d μ pc (a0 :: a1 :: a2 :: a3 :: a4 :: a5 :: a6 :: a7 :: a8 :: c :: t) (.ref x :: st) h r h1 :=
  px_astore (i := 9) (ls := a0 :: a1 :: a2 :: a3 :: a4 :: a5 :: a6 :: a7 :: a8 :: c :: t) (fun z hz he => by cases he; exact hb) (by show 9 < _; simp) hd kk
theorem px_astoreN9 {a0 a1 a2 a3 a4 a5 a6 a7 a8 : Option Value} {c : Option Value} {t : pm_Ls}  (hb : pm_nl a8 = true) (hd : decode μ.2.1 pc = .ok (.astore 9, 2)) (kk : EX B D d μ (pc + 2) (a0 :: a1 :: a2 :: a3 :: a4 :: a5 :: a6 :: a7 :: a8 :: some (.null) :: t) st h r h1) : EX B D d μ pc (a0 :: a1 :: a2 :: a3 :: a4 :: a5 :: a6 :: a7 :: a8 :: c :: t) (.null :: st) h r h1 :=
  px_astoreN (i := 9) (ls := a0 :: a1 :: a2 :: a3 :: a4 :: a5 :: a6 :: a7 :: a8 :: c :: t) (fun z hz he => by cases he; exact hb) (by show 9 < _; simp) hd kk
theorem px_iinc9 {a0 a1 a2 a3 a4 a5 a6 a7 a8 : Option Value} {t : pm_Ls} {n : Int} {x v : Int32} (hb : pm_nl a8 = true) (hc : x + Int32.ofInt n = v) (hd : decode μ.2.1 pc = .ok (.iinc 9 n, 3)) (kk : EX B D d μ (pc + 3) (a0 :: a1 :: a2 :: a3 :: a4 :: a5 :: a6 :: a7 :: a8 :: some (.int v) :: t) st h r h1) : EX B D d μ pc (a0 :: a1 :: a2 :: a3 :: a4 :: a5 :: a6 :: a7 :: a8 :: some (.int x) :: t) st h r h1 :=
  px_iinc (i := 9) (ls := a0 :: a1 :: a2 :: a3 :: a4 :: a5 :: a6 :: a7 :: a8 :: some (.int x) :: t) (fun z hz he => by cases he; exact hb) (by simp) hc hd kk
theorem px_istore10 {a0 a1 a2 a3 a4 a5 a6 a7 a8 a9 : Option Value} {c : Option Value} {t : pm_Ls} {x : Int32} (hb : pm_nl a9 = true) (hd : decode μ.2.1 pc = .ok (.istore 10, 2)) (kk : EX B D d μ (pc + 2) (a0 :: a1 :: a2 :: a3 :: a4 :: a5 :: a6 :: a7 :: a8 :: a9 :: some (.int x) :: t) st h r h1) : EX B D d μ pc (a0 :: a1 :: a2 :: a3 :: a4 :: a5 :: a6 :: a7 :: a8 :: a9 :: c :: t) (.int x :: st) h r h1 :=
  px_istore (i := 10) (ls := a0 :: a1 :: a2 :: a3 :: a4 :: a5 :: a6 :: a7 :: a8 :: a9 :: c :: t) (fun z hz he => by cases he; exact hb) (by show 10 < _; simp) hd kk
theorem px_lstore10 {a0 a1 a2 a3 a4 a5 a6 a7 a8 a9 : Option Value} {c c2 : Option Value} {t : pm_Ls} {x : Int64} (hb : pm_nl a9 = true) (hd : decode μ.2.1 pc = .ok (.lstore 10, 2)) (kk : EX B D d μ (pc + 2) (a0 :: a1 :: a2 :: a3 :: a4 :: a5 :: a6 :: a7 :: a8 :: a9 :: some (.long x) :: none :: t) st h r h1) : EX B D d μ pc (a0 :: a1 :: a2 :: a3 :: a4 :: a5 :: a6 :: a7 :: a8 :: a9 :: c :: c2 :: t) (.long x :: st) h r h1 :=
  px_lstore (i := 10) (ls := a0 :: a1 :: a2 :: a3 :: a4 :: a5 :: a6 :: a7 :: a8 :: a9 :: c :: c2 :: t) (fun z hz he => by cases he; exact hb) (by show 10 + 1 < _; simp) hd kk
theorem px_astore10 {a0 a1 a2 a3 a4 a5 a6 a7 a8 a9 : Option Value} {c : Option Value} {t : pm_Ls} {x : Nat} (hb : pm_nl a9 = true) (hd : decode μ.2.1 pc = .ok (.astore 10, 2)) (kk : EX B D d μ (pc + 2) (a0 :: a1 :: a2 :: a3 :: a4 :: a5 :: a6 :: a7 :: a8 :: a9 :: some (.ref x) :: t) st h r h1) : EX B D d μ pc (a0 :: a1 :: a2 :: a3 :: a4 :: a5 :: a6 :: a7 :: a8 :: a9 :: c :: t) (.ref x :: st) h r h1 :=
  px_astore (i := 10) (ls := a0 :: a1 :: a2 :: a3 :: a4 :: a5 :: a6 :: a7 :: a8 :: a9 :: c :: t) (fun z hz he => by cases he; exact hb) (by show 10 < _; simp) hd kk
theorem px_astoreN10 {a0 a1 a2 a3 a4 a5 a6 a7 a8 a9 : Option Value} {c : Option Value} {t : pm_Ls}  (hb : pm_nl a9 = true) (hd : decode μ.2.1 pc = .ok (.astore 10, 2)) (kk : EX B D d μ (pc + 2) (a0 :: a1 :: a2 :: a3 :: a4 :: a5 :: a6 :: a7 :: a8 :: a9 :: some (.null) :: t) st h r h1) : EX B D d μ pc (a0 :: a1 :: a2 :: a3 :: a4 :: a5 :: a6 :: a7 :: a8 :: a9 :: c :: t) (.null :: st) h r h1 :=
  px_astoreN (i := 10) (ls := a0 :: a1 :: a2 :: a3 :: a4 :: a5 :: a6 :: a7 :: a8 :: a9 :: c :: t) (fun z hz he => by cases he; exact hb) (by show 10 < _; simp) hd kk
theorem px_iinc10 {a0 a1 a2 a3 a4 a5 a6 a7 a8 a9 : Option Value} {t : pm_Ls} {n : Int} {x v : Int32} (hb : pm_nl a9 = true) (hc : x + Int32.ofInt n = v) (hd : decode μ.2.1 pc = .ok (.iinc 10 n, 3)) (kk : EX B D d μ (pc + 3) (a0 :: a1 :: a2 :: a3 :: a4 :: a5 :: a6 :: a7 :: a8 :: a9 :: some (.int v) :: t) st h r h1) : EX B D d μ pc (a0 :: a1 :: a2 :: a3 :: a4 :: a5 :: a6 :: a7 :: a8 :: a9 :: some (.int x) :: t) st h r h1 :=
  px_iinc (i := 10) (ls := a0 :: a1 :: a2 :: a3 :: a4 :: a5 :: a6 :: a7 :: a8 :: a9 :: some (.int x) :: t) (fun z hz he => by cases he; exact hb) (by simp) hc hd kk
theorem px_istore11 {a0 a1 a2 a3 a4 a5 a6 a7 a8 a9 a10 : Option Value} {c : Option Value} {t : pm_Ls} {x : Int32} (hb : pm_nl a10 = true) (hd : decode μ.2.1 pc = .ok (.istore 11, 2)) (kk : EX B D d μ (pc + 2) (a0 :: a1 :: a2 :: a3 :: a4 :: a5 :: a6 :: a7 :: a8 :: a9 :: a10 :: some (.int x) :: t) st h r h1) : EX B D d μ pc (a0 :: a1 :: a2 :: a3 :: a4 :: a5 :: a6 :: a7 :: a8 :: a9 :: a10 :: c :: t) (.int x :: st) h r h1 :=
  px_istore (i := 11) (ls := a0 :: a1 :: a2 :: a3 :: a4 :: a5 :: a6 :: a7 :: a8 :: a9 :: a10 :: c :: t) (fun z hz he => by cases he; exact hb) (by show 11 < _; simp) hd kk
theorem px_lstore11 {a0 a1 a2 a3 a4 a5 a6 a7 a8 a9 a10 : Option Value} {c c2 : Option Value} {t : pm_Ls} {x : Int64} (hb : pm_nl a10 = true) (hd : decode μ.2.1 pc = .ok (.lstore 11, 2)) (kk : EX B D d μ (pc + 2) (a0 :: a1 :: a2 :: a3 :: a4 :: a5 :: a6 :: a7 :: a8 :: a9 :: a10 :: some (.long x) :: none :: t) st h r h1) : EX B D d μ pc (a0 :: a1 :: a2 :: a3 :: a4 :: a5 :: a6 :: a7 :: a8 :: a9 :: a10 :: c :: c2 :: t) (.long x :: st) h r h1 :=
  px_lstore (i := 11) (ls := a0 :: a1 :: a2 :: a3 :: a4 :: a5 :: a6 :: a7 :: a8 :: a9 :: a10 :: c :: c2 :: t) (fun z hz he => by cases he; exact hb) (by show 11 + 1 < _; simp) hd kk
theorem px_astore11 {a0 a1 a2 a3 a4 a5 a6 a7 a8 a9 a10 : Option Value} {c : Option Value} {t : pm_Ls} {x : Nat} (hb : pm_nl a10 = true) (hd : decode μ.2.1 pc = .ok (.astore 11, 2)) (kk : EX B D d μ (pc + 2) (a0 :: a1 :: a2 :: a3 :: a4 :: a5 :: a6 :: a7 :: a8 :: a9 :: a10 :: some (.ref x) :: t) st h r h1) : EX B D d μ pc (a0 :: a1 :: a2 :: a3 :: a4 :: a5 :: a6 :: a7 :: a8 :: a9 :: a10 :: c :: t) (.ref x :: st) h r h1 :=
  px_astore (i := 11) (ls := a0 :: a1 :: a2 :: a3 :: a4 :: a5 :: a6 :: a7 :: a8 :: a9 :: a10 :: c :: t) (fun z hz he => by cases he; exact hb) (by show 11 < _; simp) hd kk
theorem px_astoreN11 {a0 a1 a2 a3 a4 a5 a6 a7 a8 a9 a10 : Option Value} {c : Option Value} {t : pm_Ls}  (hb : pm_nl a10 = true) (hd : decode μ.2.1 pc = .ok (.astore 11, 2)) (kk : EX B D d μ (pc + 2) (a0 :: a1 :: a2 :: a3 :: a4 :: a5 :: a6 :: a7 :: a8 :: a9 :: a10 :: some (.null) :: t) st h r h1) : EX B D d μ pc (a0 :: a1 :: a2 :: a3 :: a4 :: a5 :: a6 :: a7 :: a8 :: a9 :: a10 :: c :: t) (.null :: st) h r h1 :=
  px_astoreN (i := 11) (ls := a0 :: a1 :: a2 :: a3 :: a4 :: a5 :: a6 :: a7 :: a8 :: a9 :: a10 :: c :: t) (fun z hz he => by cases he; exact hb) (by show 11 < _; simp) hd kk
theorem px_iinc11 {a0 a1 a2 a3 a4 a5 a6 a7 a8 a9 a10 : Option Value} {t : pm_Ls} {n : Int} {x v : Int32} (hb : pm_nl a10 = true) (hc : x + Int32.ofInt n = v) (hd : decode μ.2.1 pc = .ok (.iinc 11 n, 3)) (kk : EX B D d μ (pc + 3) (a0 :: a1 :: a2 :: a3 :: a4 :: a5 :: a6 :: a7 :: a8 :: a9 :: a10 :: some (.int v) :: t) st h r h1) : EX B D d μ pc (a0 :: a1 :: a2 :: a3 :: a4 :: a5 :: a6 :: a7 :: a8 :: a9 :: a10 :: some (.int x) :: t) st h r h1 :=
  px_iinc (i := 11) (ls := a0 :: a1 :: a2 :: a3 :: a4 :: a5 :: a6 :: a7 :: a8 :: a9 :: a10 :: some (.int x) :: t) (fun z hz he => by cases he; exact hb) (by simp) hc hd kk
theorem px_istore12 {a0 a1 a2 a3 a4 a5 a6 a7 a8 a9 a10 a11 : Option Value} {c : Option Value} {t : pm_Ls} {x : Int32} (hb : pm_nl a11 = true) (hd : decode μ.2.1 pc = .ok (.istore 12, 2)) (kk : EX B D d μ (pc + 2) (a0 :: a1 :: a2 :: a3 :: a4 :: a5 :: a6 :: a7 :: a8 :: a9 :: a10 :: a11 :: some (.int x) :: t) st h r h1) : EX B D d μ pc (a0 :: a1 :: a2 :: a3 :: a4 :: a5 :: a6 :: a7 :: a8 :: a9 :: a10 :: a11 :: c :: t) (.int x :: st) h r h1 :=
  px_istore (i := 12) (ls := a0 :: a1 :: a2 :: a3 :: a4 :: a5 :: a6 :: a7 :: a8 :: a9 :: a10 :: a11 :: c :: t) (fun z hz he => by cases he; exact hb) (by show 12 < _; simp) hd kk
theorem px_lstore12 {a0 a1 a2 a3 a4 a5 a6 a7 a8 a9 a10 a11 : Option Value} {c c2 : Option Value} {t : pm_Ls} {x : Int64} (hb : pm_nl a11 = true) (hd : decode μ.2.1 pc = .ok (.lstore 12, 2)) (kk : EX B D d μ (pc + 2) (a0 :: a1 :: a2 :: a3 :: a4 :: a5 :: a6 :: a7 :: a8 :: a9 :: a10 :: a11 :: some (.long x) :: none :: t) st h r h1) : EX B D d μ pc (a0 :: a1 :: a2 :: a3 :: a4 :: a5 :: a6 :: a7 :: a8 :: a9 :: a10 :: a11 :: c :: c2 :: t) (.long x :: st) h r h1 :=
  px_lstore (i := 12) (ls := a0 :: a1 :: a2 :: a3 :: a4 :: a5 :: a6 :: a7 :: a8 :: a9 :: a10 :: a11 :: c :: c2 :: t) (fun z hz he => by cases he; exact hb) (by show 12 + 1 < _; simp) hd kk
theorem px_astore12 {a0 a1 a2 a3 a4 a5 a6 a7 a8 a9 a10 a11 : Option Value} {c : Option Value} {t : pm_Ls} {x : Nat} (hb : pm_nl a11 = true) (hd : decode μ.2.1 pc = .ok (.astore 12, 2)) (kk : EX B D d μ (pc + 2) (a0 :: a1 :: a2 :: a3 :: a4 :: a5 :: a6 :: a7 :: a8 :: a9 :: a10 :: a11 :: some (.ref x) :: t) st h r h1) : EX B D d μ pc (a0 :: a1 :: a2 :: a3 :: a4 :: a5 :: a6 :: a7 :: a8 :: a9 :: a10 :: a11 :: c :: t) (.ref x :: st) h r h1 :=
  px_astore (i := 12) (ls := a0 :: a1 :: a2 :: a3 :: a4 :: a5 :: a6 :: a7 :: a8 :: a9 :: a10 :: a11 :: c :: t) (fun z hz he => by cases he; exact hb) (by show 12 < _; simp) hd kk
theorem px_astoreN12 {a0 a1 a2 a3 a4 a5 a6 a7 a8 a9 a10 a11 : Option Value} {c : Option Value} {t : pm_Ls}  (hb : pm_nl a11 = true) (hd : decode μ.2.1 pc = .ok (.astore 12, 2)) (kk : EX B D d μ (pc + 2) (a0 :: a1 :: a2 :: a3 :: a4 :: a5 :: a6 :: a7 :: a8 :: a9 :: a10 :: a11 :: some (.null) :: t) st h r h1) : EX B D d μ pc (a0 :: a1 :: a2 :: a3 :: a4 :: a5 :: a6 :: a7 :: a8 :: a9 :: a10 :: a11 :: c :: t) (.null :: st) h r h1 :=
  px_astoreN (i := 12) (ls := a0 :: a1 :: a2 :: a3 :: a4 :: a5 :: a6 :: a7 :: a8 :: a9 :: a10 :: a11 :: c :: t) (fun z hz he => by cases he; exact hb) (by show 12 < _; simp) hd kk
theorem px_iinc12 {a0 a1 a2 a3 a4 a5 a6 a7 a8 a9 a10 a11 : Option Value} {t : pm_Ls} {n : Int} {x v : Int32} (hb : pm_nl a11 = true) (hc : x + Int32.ofInt n = v) (hd : decode μ.2.1 pc = .ok (.iinc 12 n, 3)) (kk : EX B D d μ (pc + 3) (a0 :: a1 :: a2 :: a3 :: a4 :: a5 :: a6 :: a7 :: a8 :: a9 :: a10 :: a11 :: some (.int v) :: t) st h r h1) : EX B D d μ pc (a0 :: a1 :: a2 :: a3 :: a4 :: a5 :: a6 :: a7 :: a8 :: a9 :: a10 :: a11 :: some (.int x) :: t) st h r h1 :=
  px_iinc (i := 12) (ls := a0 :: a1 :: a2 :: a3 :: a4 :: a5 :: a6 :: a7 :: a8 :: a9 :: a10 :: a11 :: some (.int x) :: t) (fun z hz he => by cases he; exact hb) (by simp) hc hd kk
theorem px_istore13 {a0 a1 a2 a3 a4 a5 a6 a7 a8 a9 a10 a11 a12 : Option Value} {c : Option Value} {t : pm_Ls} {x : Int32} (hb : pm_nl a12 = true) (hd : decode μ.2.1 pc = .ok (.istore 13, 2)) (kk : EX B D d μ (pc + 2) (a0 :: a1 :: a2 :: a3 :: a4 :: a5 :: a6 :: a7 :: a8 :: a9 :: a10 :: a11 :: a12 :: some (.int x) :: t) st h r h1) : EX B D d μ pc (a0 :: a1 :: a2 :: a3 :: a4 :: a5 :: a6 :: a7 :: a8 :: a9 :: a10 :: a11 :: a12 :: c :: t) (.int x :: st) h r h1 :=
  px_istore (i := 13) (ls := a0 :: a1 :: a2 :: a3 :: a4 :: a5 :: a6 :: a7 :: a8 :: a9 :: a10 :: a11 :: a12 :: c :: t) (fun z hz he => by cases he; exact hb) (by show 13 < _; simp) hd kk
theorem px_lstore13 {a0 a1 a2 a3 a4 a5 a6 a7 a8 a9 a10 a11 a12 : Option Value} {c c2 : Option Value} {t : pm_Ls} {x : Int64} (hb : pm_nl a12 = true) (hd : decode μ.2.1 pc = .ok (.lstore 13, 2)) (kk : EX B D d μ (pc + 2) (a0 :: a1 :: a2 :: a3 :: a4 :: a5 :: a6 :: a7 :: a8 :: a9 :: a10 :: a11 :: a12 :: some (.long x) :: none :: t) st h r h1) : EX B D d μ pc (a0 :: a1 :: a2 :: a3 :: a4 :: a5 :: a6 :: a7 :: a8 :: a9 :: a10 :: a11 :: a12 :: c :: c2 :: t) (.long x :: st) h r h1 :=
  px_lstore (i := 13) (ls := a0 :: a1 :: a2 :: a3 :: a4 :: a5 :: a6 :: a7 :: a8 :: a9 :: a10 :: a11 :: a12 :: c :: c2 :: t) (fun z hz he => by cases he; exact hb) (by show 13 + 1 < _; simp) hd kk
theorem px_astore13 {a0 a1 a2 a3 a4 a5 a6 a7 a8 a9 a10 a11 a12 : Option Value} {c : Option Value} {t : pm_Ls} {x : Nat} (hb : pm_nl a12 = true) (hd : decode μ.2.1 pc = .ok (.astore 13, 2)) (kk : EX B D d μ (pc + 2) (a0 :: a1 :: a2 :: a3 :: a4 :: a5 :: a6 :: a7 :: a8 :: a9 :: a10 :: a11 :: a12 :: some (.ref x) :: t) st h r h1) : EX B D d μ pc (a0 :: a1 :: a2 :: a3 :: a4 :: a5 :: a6 :: a7 :: a8 :: a9 :: a10 :: a11 :: a12 :: c :: t) (.ref x :: st) h r h1 :=
  px_astore (i := 13) (ls := a0 :: a1 :: a2 :: a3 :: a4 :: a5 :: a6 :: a7 :: a8 :: a9 :: a10 :: a11 :: a12 :: c :: t) (fun z hz he => by cases he; exact hb) (by show 13 < _; simp) hd kk
theorem px_astoreN13 {a0 a1 a2 a3 a4 a5 a6 a7 a8 a9 a10 a11 a12 : Option Value} {c : Option Value} {t : pm_Ls}  (hb : pm_nl a12 = true) (hd : decode μ.2.1 pc = .ok (.astore 13, 2)) (kk : EX B D d μ (pc + 2) (a0 :: a1 :: a2 :: a3 :: a4 :: a5 :: a6 :: a7 :: a8 :: a9 :: a10 :: a11 :: a12 :: some (.null) :: t) st h r h1) : EX B D d μ pc (a0 :: a1 :: a2 :: a3 :: a4 :: a5 :: a6 :: a7 :: a8 :: a9 :: a10 :: a11 :: a12 :: c :: t) (.null :: st) h r h1 :=
  px_astoreN (i := 13) (ls := a0 :: a1 :: a2 :: a3 :: a4 :: a5 :: a6 :: a7 :: a8 :: a9 :: a10 :: a11 :: a12 :: c :: t) (fun z hz he => by cases he; exact hb) (by show 13 < _; simp) hd kk
theorem px_iinc13 {a0 a1 a2 a3 a4 a5 a6 a7 a8 a9 a10 a11 a12 : Option Value} {t : pm_Ls} {n : Int} {x v : Int32} (hb : pm_nl a12 = true) (hc : x + Int32.ofInt n = v) (hd : decode μ.2.1 pc = .ok (.iinc 13 n, 3)) (kk : EX B D d μ (pc + 3) (a0 :: a1 :: a2 :: a3 :: a4 :: a5 :: a6 :: a7 :: a8 :: a9 :: a10 :: a11 :: a12 :: some (.int v) :: t) st h r h1) : EX B D d μ pc (a0 :: a1 :: a2 :: a3 :: a4 :: a5 :: a6 :: a7 :: a8 :: a9 :: a10 :: a11 :: a12 :: some (.int x) :: t) st h r h1 :=
  px_iinc (i := 13) (ls := a0 :: a1 :: a2 :: a3 :: a4 :: a5 :: a6 :: a7 :: a8 :: a9 :: a10 :: a11 :: a12 :: some (.int x) :: t) (fun z hz he => by cases he; exact hb) (by simp) hc hd kk
end PX
end
section
/-! rules for the heap and for calls -/
theorem pm_gw_of {w : Cond} (i : Nat) (h : lw_tbl[i]? = some w) (hg : goodWord w = true) : w ∈ pm_gw := List.mem_filter.mpr ⟨List.mem_of_getElem? h, hg⟩
def pm_okc (q : vw_C) : Prop := (∀ w ∈ u_ws q.1 q.2.1 q.2.2, w ∈ pm_gw) ∧ (∀ a, a < q.2.2 → ∀ b, b < q.2.2 → a ≠ b → (q.2.1 a).2.1 ≠ (q.2.1 b).2.1) ∧ ∃ ty : Nat → FieldType, ∀ k, k < q.2.2 → parseFieldDescriptor (q.2.1 k).2.2.1 = some (ty k)
theorem pm_ok0 : pm_okc (RX0, TX0, 11) := ⟨by decide +kernel, nmX0, tyX0, tyX0_ok⟩
theorem pm_ok1 : pm_okc (RX1, TX1, 5) := ⟨by decide +kernel, nmX1, tyX1, tyX1_ok⟩
theorem pm_ok2 : pm_okc (RX2, TX2, 3) := ⟨by decide +kernel, nmX2, tyX2, tyX2_ok⟩
theorem pm_ok3 : pm_okc (RX3, TX3, 2) := ⟨by decide +kernel, nmX3, tyX3, tyX3_ok⟩
theorem pm_ok4 : pm_okc (RX4, TX4, 7) := ⟨by decide +kernel, nmX4, tyX4, tyX4_ok⟩
theorem pm_ok5 : pm_okc (RX5, TX5, 4) := ⟨by decide +kernel, nmX5, tyX5, tyX5_ok⟩
theorem pm_ok6 : pm_okc (RX6, TX6, 7) := ⟨by decide +kernel, nmX6, tyX6, tyX6_ok⟩
theorem pm_ok7 : pm_okc (RX7, TX7, 29) := ⟨by decide +kernel, nmX7, tyX7, tyX7_ok⟩
theorem pm_cl_ok {ci : Nat} {q : vw_C} (h : pm_cl[ci]? = some q) : pm_okc q := by
  match ci with
  | 0 => cases h; exact pm_ok0
  | 1 => cases h; exact pm_ok1
  | 2 => cases h; exact pm_ok2
  | 3 => cases h; exact pm_ok3
  | 4 => cases h; exact pm_ok4
  | 5 => cases h; exact pm_ok5
  | 6 => cases h; exact pm_ok6
  | 7 => cases h; exact pm_ok7
  | _ + 8 => cases h
/-- place k of an object of class ci, as the class 'own' reads it by its entry i -/
def pm_fl (own : String) (i ci k : Nat) : Prop := ∃ q : vw_C, pm_cl[ci]? = some q ∧ k < q.2.2 ∧ (q.2.1 k).1 = q.1 ∧ Cond.fieldLink own i q.1 (q.2.1 k).2.1 (q.2.1 k).2.2.1 ∈ pm_gw
/-- and writes it: of type ty; fin: it is final -/
def pm_fp (own : String) (i ci k : Nat) (fin : Bool) (ty : FieldType) : Prop := ∃ q : vw_C, pm_cl[ci]? = some q ∧ k < q.2.2 ∧ (q.2.1 k).1 = q.1 ∧ Cond.fieldLink own i q.1 (q.2.1 k).2.1 (q.2.1 k).2.2.1 ∈ pm_gw ∧ (q.2.1 k).2.2.2 = fin ∧ parseFieldDescriptor (q.2.1 k).2.2.1 = some ty
theorem pm_one {D : va_G} {a : Nat} {e : va_E} {H : Heap} (h : va_at D pm_cl (a, e) H) : va_P D pm_cl [(a, e)] H := by
  intro k q hk
  match k with
  | 0 => cases hk; exact h
  | _ + 1 => cases hk
theorem pm_rin {i : Int32} {n : Nat} (h : 0 ≤ i.toInt ∧ i.toInt < n) : vp_in i n := vp_in_iff.mpr h
theorem pm_arr {B : Nat} {D : va_G} {s : State} {a t : Nat} {x : vp_A} {H : Heap} (h : pm_at B D s a (.inl (t, x)) H) (ht : t ≠ 9) : B ≤ a ∧ ∃ cA : ClassId, ArrOfT s cA (pm_ty t) ∧ va_RA s cA (pm_ty t) ∧ H[a]? = some (vp_cell cA x) := by
  unfold pm_at at h
  dsimp only at h
  rw [if_neg ht] at h
  exact h
theorem pm_arr' {B : Nat} {D : va_G} {s : State} {a t : Nat} {x : vp_A} {H : Heap} (ht : t ≠ 9) (h : B ≤ a ∧ ∃ cA : ClassId, ArrOfT s cA (pm_ty t) ∧ va_RA s cA (pm_ty t) ∧ H[a]? = some (vp_cell cA x)) : pm_at B D s a (.inl (t, x)) H := by
  unfold pm_at
  dsimp only
  rw [if_neg ht]
  exact h
theorem pm_scr {B : Nat} {D : va_G} {s : State} {a L : Nat} {xs : Nat → Int32} {H : Heap} (h : pm_at B D s a (.inl (9, L, .inl xs)) H) : va_X a L xs s H := by
  unfold pm_at at h
  dsimp only at h
  rw [if_pos rfl] at h
  obtain ⟨-, L', xs', he, hX⟩ := h
  cases he
  exact hX
theorem pm_K1 {D : va_G} {s : State} {cA : ClassId} {ty : FieldType} (hK : va_K D pm_cl [] s) (h1 : ArrOfT s cA ty) (h2 : va_RA s cA ty) : va_K D pm_cl [(cA, ty)] s := by
  refine ⟨hK.1, fun k q hk => ?_⟩
  match k with
  | 0 => cases hk; exact ⟨h1, h2⟩
  | _ + 1 => cases hk
section PY
variable {B : Nat} {D : va_G} {d : Nat} {μ : pm_M} {pc : Nat} {ls : pm_Ls} {st : List Value} {n w : Nat} {f : Nat → Option va_E} {r : Option Value} {h1 : pm_H}
theorem px_getfield {i ci k a : Nat} {fs : List Value} {v : Value} (hF : pm_fl μ.1.cls i ci k) (hd : decode μ.2.1 pc = .ok (.getfield i, 3)) (ha : f a = some (.inr (ci, fs))) (hv : fs[k]? = some v) (kk : EX B D d μ (pc + 3) ls (v :: st) (n, w, f) r h1) : EX B D d μ pc ls (.ref a :: st) (n, w, f) r h1 := by
  refine ⟨kk.1, fun p l e R s m args below meth c H locs lsA n0 w0 Q cx hl hR hlo e1 e2 e3 e4 hq => ?_⟩
  obtain ⟨q, hqq, hk, hO, hlk⟩ := hF
  have hP := pm_one (hR.2.2 a _ ha).2
  exact va_get cx.1 cx.2.1 cx.2.2.2.2.2.1 (pm_cl_ok hqq).1 cx.2.2.2.2.1 cx.2.2.2.2.2.2.2.2.1.1 hP 0 rfl hqq k hk (cx.2.2.2.2.2.1 _ hlk) (fun x hx => by rw [hO] at hx; exact hx) hv hd (kk.2 p l e R s m args below meth c H locs lsA n0 w0 Q cx hl hR hlo e1 e2 e3 e4 hq)
theorem px_putfield {i ci k a : Nat} {fs : List Value} {v : Value} {ty : FieldType} (hF : pm_fp μ.1.cls i ci k false ty) (hd : decode μ.2.1 pc = .ok (.putfield i, 3)) (ha : f a = some (.inr (ci, fs))) (hn : narrow ty v = v) (hfit : fits ty v = true) (hlen : k < fs.length) (kk : EX B D d μ (pc + 3) ls st (n, w, va_up f a (some (.inr (ci, fs.set k v)))) r h1) : EX B D d μ pc ls (v :: .ref a :: st) (n, w, f) r h1 := by
  refine ⟨kk.1, fun p l e R s m args below meth c H locs lsA n0 w0 Q cx hl hR hlo e1 e2 e3 e4 hq => ?_⟩
  obtain ⟨⟨C, T, N⟩, hc, hk, hO, hlk, hfin, hdty⟩ := hF
  dsimp only at hk hO hlk hfin hdty
  obtain ⟨hin, hnm, ty0, hty⟩ := pm_cl_ok hc
  have hx := cx.1
  have hb := cx.2.1
  have hown := cx.2.2.2.2.1
  have hts := cx.2.2.2.2.2.1
  have hK := cx.2.2.2.2.2.2.2.2.1.1
  obtain ⟨hBa, hat⟩ := hR.2.2 a _ ha
  obtain ⟨q', h1', cell, q1, q2, q3, q4⟩ := hat
  have hr : q' = (C, T, N) := Option.some.inj (h1'.symm.trans hc)
  subst hr
  have hap := va_apart (own := μ.1.cls) hts hin ty0 hty hnm hK hc
  obtain ⟨hS, hfc, kC, hkC, hkind⟩ := hK.1 ci _ hc
  obtain ⟨cf, kf, fi, fd, hi, hsl⟩ := hS k hk
  have hlay := hts _ (hin _ (u_in_lay hk))
  unfold u_lay at hlay
  rw [if_neg (by rw [hfin]; decide)] at hlay
  have hst := (u_facts hfc hkC (u_lays hts hin hk) hi).1
  have h6 := u_store hfc hkC hkind hlay hi hdty hn hfit
  refine W.putK hx hb (f := fd) ⟨hown, hts _ hlk, ⟨_, _, _, by rw [hO] at hi; exact hi⟩, hst⟩ (by rw [q2]; exact h6) q1 q3 (by rw [hsl]; exact k2_hasslot (q4 k hk)) rfl rfl hd fun H' g1 g2 g3 => ?_
  rw [hsl] at g1 ⊢
  refine kk.2 p l e R s m args below meth c H' _ lsA n0 w0 Q cx hl (hR.set ⟨hBa, _, hc, t_OB.to (V := updV (vp_V fs) k v) ⟨_, g1, q2, q3, t_set q4 hap hk v⟩ (fun j _ => vp_updV_set hlen v j)⟩ g2 g3) (fun q hq => ?_) e1 e2 e3 e4 hq
  rcases List.mem_append.mp hq with h | h
  · exact hlo q h
  · rw [List.mem_singleton.mp h]; exact hBa
theorem px_putfieldF {i ci k a : Nat} {fs : List Value} {v : Value} {ty : FieldType} (hF : pm_fp μ.1.cls i ci k true ty) (hin2 : μ.1.name = "<init>") (hcc : (pm_cl[ci]?).map (fun q => q.1) = some μ.1.cls) (hd : decode μ.2.1 pc = .ok (.putfield i, 3)) (ha : f a = some (.inr (ci, fs))) (hn : narrow ty v = v) (hfit : fits ty v = true) (hlen : k < fs.length) (kk : EX B D d μ (pc + 3) ls st (n, w, va_up f a (some (.inr (ci, fs.set k v)))) r h1) : EX B D d μ pc ls (v :: .ref a :: st) (n, w, f) r h1 := by
  refine ⟨kk.1, fun p l e R s m args below meth c H locs lsA n0 w0 Q cx hl hR hlo e1 e2 e3 e4 hq => ?_⟩
  obtain ⟨⟨C, T, N⟩, hc, hk, hO, hlk, hfin, hdty⟩ := hF
  dsimp only at hk hO hlk hfin hdty
  rw [hc] at hcc
  have hCown : C = μ.1.cls := Option.some.inj hcc
  obtain ⟨hin, hnm, ty0, hty⟩ := pm_cl_ok hc
  have hx := cx.1
  have hb := cx.2.1
  have hown := cx.2.2.2.2.1
  have hts := cx.2.2.2.2.2.1
  have hname := cx.2.2.2.2.2.2.2.1
  have hK := cx.2.2.2.2.2.2.2.2.1.1
  obtain ⟨hBa, hat⟩ := hR.2.2 a _ ha
  obtain ⟨q', h1', cell, q1, q2, q3, q4⟩ := hat
  have hr : q' = (C, T, N) := Option.some.inj (h1'.symm.trans hc)
  subst hr
  have hap := va_apart (own := μ.1.cls) hts hin ty0 hty hnm hK hc
  obtain ⟨hS, hfc, kC, hkC, hkind⟩ := hK.1 ci _ hc
  obtain ⟨cf, kf, fi, fd, hi, hsl⟩ := hS k hk
  have hlay := hts _ (hin _ (u_in_lay hk))
  unfold u_lay at hlay
  rw [if_pos hfin] at hlay
  have hst := (u_facts hfc hkC (u_lays hts hin hk) hi).1
  have hcf : m.cls = cf := by
    obtain ⟨_, _, c', _, _, _, -, -, hf', -, -, -, hown2, -⟩ := Cond.laysFinal_spec hlay
    have e1 : c' = cf := by have := hi.symm.trans hf'; simp at this; exact this.1.symm
    rw [hO, hCown] at hown2
    rw [← e1]; exact Option.some.inj (hown.symm.trans hown2)
  have h6 := u_fits hfc hkC hkind (Or.inr hlay) hi hdty hn hfit
  refine W.putFinK hx hb hown (hts _ hlk) (by rw [hO] at hi; exact hi) hst hcf (hname hin2) (by rw [q2]; exact h6) q1 q3 (by rw [hsl]; exact k2_hasslot (q4 k hk)) rfl rfl hd fun H' g1 g2 g3 => ?_
  rw [hsl] at g1 ⊢
  refine kk.2 p l e R s m args below meth c H' _ lsA n0 w0 Q cx hl (hR.set ⟨hBa, _, hc, t_OB.to (V := updV (vp_V fs) k v) ⟨_, g1, q2, q3, t_set q4 hap hk v⟩ (fun j _ => vp_updV_set hlen v j)⟩ g2 g3) (fun q hq => ?_) e1 e2 e3 e4 hq
  rcases List.mem_append.mp hq with h | h
  · exact hlo q h
  · rw [List.mem_singleton.mp h]; exact hBa
theorem px_iaload {a m : Nat} {g : Nat → Int32} {i : Int32} (hd : decode μ.2.1 pc = .ok (.iaload, 1)) (ha : f a = some (.inl (0, m, .inl g))) (hi : 0 ≤ i.toInt ∧ i.toInt < m) (kk : EX B D d μ (pc + 1) ls (.int (g i.toNatClampNeg) :: st) (n, w, f) r h1) : EX B D d μ pc ls (.int i :: .ref a :: st) (n, w, f) r h1 := by
  refine ⟨kk.1, fun p l e R s m args below meth c H locs lsA n0 w0 Q cx hl hR hlo e1 e2 e3 e4 hq => ?_⟩
  obtain ⟨hBa, cA, hA, hRA, hc⟩ := pm_arr (hR.2.2 a _ ha) (by decide)
  exact va_iald cx.1 cx.2.1 (pm_K1 cx.2.2.2.2.2.2.2.2.1.1 hA hRA) (pm_one (e := .inl (cA, _, .inl g)) hc) 0 0 rfl rfl (pm_rin hi) hd (kk.2 p l e R s m args below meth c H locs lsA n0 w0 Q cx hl hR hlo e1 e2 e3 e4 hq)
theorem px_saload {a m : Nat} {g : Nat → Int32} {i : Int32} (hd : decode μ.2.1 pc = .ok (.iaload, 1)) (ha : f a = some (.inl (9, m, .inl g))) (hi : 0 ≤ i.toInt ∧ i.toInt < m) (kk : EX B D d μ (pc + 1) ls (.int (g i.toNatClampNeg) :: st) (n, w, f) r h1) : EX B D d μ pc ls (.int i :: .ref a :: st) (n, w, f) r h1 := by
  refine ⟨kk.1, fun p l e R s m args below meth c H locs lsA n0 w0 Q cx hl hR hlo e1 e2 e3 e4 hq => ?_⟩
  obtain ⟨scr, g1, g2, g3, g4, g5⟩ := pm_scr (hR.2.2 a _ ha)
  have hin := pm_rin hi
  have hlt : i.toNatClampNeg < _ := Nat.not_le.mp fun q => hin (Or.inr q)
  exact W.iald (v := .int (g i.toNatClampNeg)) cx.1 cx.2.1 g1 g2 g3 (by rw [g4]; exact hin) (g5 _ hlt) rfl rfl hd (kk.2 p l e R s m args below meth c H locs lsA n0 w0 Q cx hl hR hlo e1 e2 e3 e4 hq)
theorem px_laload {a m : Nat} {g : Nat → Int64} {i : Int32} (hd : decode μ.2.1 pc = .ok (.laload, 1)) (ha : f a = some (.inl (1, m, .inr (.inl g)))) (hi : 0 ≤ i.toInt ∧ i.toInt < m) (kk : EX B D d μ (pc + 1) ls (.long (g i.toNatClampNeg) :: st) (n, w, f) r h1) : EX B D d μ pc ls (.int i :: .ref a :: st) (n, w, f) r h1 := by
  refine ⟨kk.1, fun p l e R s m args below meth c H locs lsA n0 w0 Q cx hl hR hlo e1 e2 e3 e4 hq => ?_⟩
  obtain ⟨hBa, cA, hA, hRA, hc⟩ := pm_arr (hR.2.2 a _ ha) (by decide)
  exact va_lald cx.1 cx.2.1 (pm_K1 cx.2.2.2.2.2.2.2.2.1.1 hA hRA) (pm_one (e := .inl (cA, _, .inr (.inl g))) hc) 0 0 rfl rfl (pm_rin hi) hd (kk.2 p l e R s m args below meth c H locs lsA n0 w0 Q cx hl hR hlo e1 e2 e3 e4 hq)
theorem px_baload {a m : Nat} {g : Nat → Int32} {i : Int32} (hd : decode μ.2.1 pc = .ok (.baload, 1)) (ha : f a = some (.inl (2, m, .inl g))) (hi : 0 ≤ i.toInt ∧ i.toInt < m) (kk : EX B D d μ (pc + 1) ls (.int (g i.toNatClampNeg) :: st) (n, w, f) r h1) : EX B D d μ pc ls (.int i :: .ref a :: st) (n, w, f) r h1 := by
  refine ⟨kk.1, fun p l e R s m args below meth c H locs lsA n0 w0 Q cx hl hR hlo e1 e2 e3 e4 hq => ?_⟩
  obtain ⟨hBa, cA, hA, hRA, hc⟩ := pm_arr (hR.2.2 a _ ha) (by decide)
  have hin := pm_rin hi
  have hlt : i.toNatClampNeg < _ := Nat.not_le.mp fun q => hin (Or.inr q)
  exact W.zald (v := .int (g i.toNatClampNeg)) cx.1 cx.2.1 hc (hA _ (fun j => .int (g j))) (fun q => by cases q) (by show ¬ (i < 0 ∨ (arrV _ _ _).slots.size ≤ _); rw [arrV_size]; exact hin) (by show (arrV _ _ _).slots[_]? = _; rw [arrV_read _ _ hlt]) rfl rfl hd (kk.2 p l e R s m args below meth c H locs lsA n0 w0 Q cx hl hR hlo e1 e2 e3 e4 hq)
theorem px_aaload {a t m : Nat} {C : String} {g : Nat → Option Nat} {i : Int32} (hC : pm_ty t = .object C) (hd : decode μ.2.1 pc = .ok (.aaload, 1)) (ha : f a = some (.inl (t, m, .inr (.inr (.inr (.inr g)))))) (ht : t ≠ 9) (hi : 0 ≤ i.toInt ∧ i.toInt < m) (kk : EX B D d μ (pc + 1) ls (va_rf (g i.toNatClampNeg) :: st) (n, w, f) r h1) : EX B D d μ pc ls (.int i :: .ref a :: st) (n, w, f) r h1 := by
  refine ⟨kk.1, fun p l e R s m args below meth c H locs lsA n0 w0 Q cx hl hR hlo e1 e2 e3 e4 hq => ?_⟩
  obtain ⟨hBa, cA, hA, hRA, hc⟩ := pm_arr (hR.2.2 a _ ha) ht
  rw [hC] at hA hRA
  exact va_aldq cx.1 cx.2.1 (pm_K1 cx.2.2.2.2.2.2.2.2.1.1 hA hRA) (pm_one (e := .inl (cA, _, .inr (.inr (.inr (.inr g))))) hc) 0 0 rfl rfl (pm_rin hi) hd (kk.2 p l e R s m args below meth c H locs lsA n0 w0 Q cx hl hR hlo e1 e2 e3 e4 hq)
theorem px_alen {a t : Nat} {x : vp_A} {v : Int32} (hv : Int32.ofNat x.1 = v) (hd : decode μ.2.1 pc = .ok (.arraylength, 1)) (ha : f a = some (.inl (t, x))) (ht : t ≠ 9) (kk : EX B D d μ (pc + 1) ls (.int v :: st) (n, w, f) r h1) : EX B D d μ pc ls (.ref a :: st) (n, w, f) r h1 := by
  refine ⟨kk.1, fun p l e R s m args below meth c H locs lsA n0 w0 Q cx hl hR hlo e1 e2 e3 e4 hq => ?_⟩
  obtain ⟨hBa, cA, hA, hRA, hc⟩ := pm_arr (hR.2.2 a _ ha) ht
  exact va_alen cx.1 cx.2.1 (pm_K1 cx.2.2.2.2.2.2.2.2.1.1 hA hRA) (pm_one (e := .inl (cA, x)) hc) 0 0 rfl rfl hv hd (kk.2 p l e R s m args below meth c H locs lsA n0 w0 Q cx hl hR hlo e1 e2 e3 e4 hq)
theorem px_slen {a m : Nat} {g : Nat → Int32} (hd : decode μ.2.1 pc = .ok (.arraylength, 1)) (ha : f a = some (.inl (9, m, .inl g))) (kk : EX B D d μ (pc + 1) ls (.int (Int32.ofNat m) :: st) (n, w, f) r h1) : EX B D d μ pc ls (.ref a :: st) (n, w, f) r h1 := by
  refine ⟨kk.1, fun p l e R s m args below meth c H locs lsA n0 w0 Q cx hl hR hlo e1 e2 e3 e4 hq => ?_⟩
  obtain ⟨scr, g1, g2, g3, g4, g5⟩ := pm_scr (hR.2.2 a _ ha)
  exact W.alen (n := Int32.ofNat _) cx.1 cx.2.1 g1 g2 (by rw [g4] <;> rfl) rfl rfl hd (kk.2 p l e R s m args below meth c H locs lsA n0 w0 Q cx hl hR hlo e1 e2 e3 e4 hq)
theorem pm_lo {B a : Nat} {locs : List Loc} {k : Nat} (hlo : ∀ q ∈ locs, B ≤ q.base) (h : B ≤ a) : ∀ q ∈ locs ++ [(⟨a, k⟩ : Loc)], B ≤ q.base := by
  intro q hq
  rcases List.mem_append.mp hq with g | g
  · exact hlo q g
  · rw [List.mem_singleton.mp g]; exact h
theorem px_iastore {a m : Nat} {g : Nat → Int32} {i x : Int32} (hd : decode μ.2.1 pc = .ok (.iastore, 1)) (ha : f a = some (.inl (0, m, .inl g))) (hi : 0 ≤ i.toInt ∧ i.toInt < m) (kk : EX B D d μ (pc + 1) ls st (n, w, va_up f a (some (.inl (0, m, .inl (va_up g i.toNatClampNeg x))))) r h1) : EX B D d μ pc ls (.int x :: .int i :: .ref a :: st) (n, w, f) r h1 := by
  refine ⟨kk.1, fun p l e R s m' args below meth c H locs lsA n0 w0 Q cx hl hR hlo e1 e2 e3 e4 hq => ?_⟩
  obtain ⟨hBa, cA, hA, hRA, hc⟩ := pm_arr (hR.2.2 a _ ha) (by decide)
  have hin := pm_rin hi
  refine W.iast cx.1 cx.2.1 hc (hA m (fun j => .int (g j))) (fun q => by cases q) (by show ¬ (i < 0 ∨ (arrV _ _ _).slots.size ≤ _); rw [arrV_size]; exact hin) rfl rfl hd fun H1 g1 z oq => ?_
  refine kk.2 p l e R s m' args below meth c H1 _ lsA n0 w0 Q cx hl (hR.set (pm_arr' (by decide) ⟨hBa, cA, hA, hRA, ?_⟩) z oq) (pm_lo hlo hBa) e1 e2 e3 e4 hq
  rw [g1, vp_cell_i, vp_cell_i, arrV_store]
  congr 2
  funext q
  by_cases hq : q = i.toNatClampNeg
  · subst hq
    simp [updV, va_up]
  · simp [updV, va_up, hq]
theorem px_lastore {a m : Nat} {g : Nat → Int64} {i : Int32} {x : Int64} (hd : decode μ.2.1 pc = .ok (.lastore, 1)) (ha : f a = some (.inl (1, m, .inr (.inl g)))) (hi : 0 ≤ i.toInt ∧ i.toInt < m) (kk : EX B D d μ (pc + 1) ls st (n, w, va_up f a (some (.inl (1, m, .inr (.inl (va_up g i.toNatClampNeg x)))))) r h1) : EX B D d μ pc ls (.long x :: .int i :: .ref a :: st) (n, w, f) r h1 := by
  refine ⟨kk.1, fun p l e R s m' args below meth c H locs lsA n0 w0 Q cx hl hR hlo e1 e2 e3 e4 hq => ?_⟩
  obtain ⟨hBa, cA, hA, hRA, hc⟩ := pm_arr (hR.2.2 a _ ha) (by decide)
  have hin := pm_rin hi
  refine W.last cx.1 cx.2.1 hc (hA m (fun j => .long (g j))) (fun q => by cases q) (by show ¬ (i < 0 ∨ (arrV _ _ _).slots.size ≤ _); rw [arrV_size]; exact hin) rfl rfl hd fun H1 g1 z oq => ?_
  refine kk.2 p l e R s m' args below meth c H1 _ lsA n0 w0 Q cx hl (hR.set (pm_arr' (by decide) ⟨hBa, cA, hA, hRA, ?_⟩) z oq) (pm_lo hlo hBa) e1 e2 e3 e4 hq
  rw [g1, vp_cell_l, vp_cell_l, arrV_store]
  congr 2
  funext q
  by_cases hq : q = i.toNatClampNeg
  · subst hq
    simp [updV, va_up]
  · simp [updV, va_up, hq]
theorem px_bastore {a m : Nat} {g : Nat → Int32} {i x : Int32} (hd : decode μ.2.1 pc = .ok (.bastore, 1)) (ha : f a = some (.inl (2, m, .inl g))) (hi : 0 ≤ i.toInt ∧ i.toInt < m) (hxx : x = 0 ∨ x = 1) (kk : EX B D d μ (pc + 1) ls st (n, w, va_up f a (some (.inl (2, m, .inl (va_up g i.toNatClampNeg x))))) r h1) : EX B D d μ pc ls (.int x :: .int i :: .ref a :: st) (n, w, f) r h1 := by
  refine ⟨kk.1, fun p l e R s m' args below meth c H locs lsA n0 w0 Q cx hl hR hlo e1 e2 e3 e4 hq => ?_⟩
  obtain ⟨hBa, cA, hA, hRA, hc⟩ := pm_arr (hR.2.2 a _ ha) (by decide)
  have hin := pm_rin hi
  refine W.zast cx.1 cx.2.1 hc (hA m (fun j => .int (g j))) (fun q => by cases q) (by show ¬ (i < 0 ∨ (arrV _ _ _).slots.size ≤ _); rw [arrV_size]; exact hin) rfl rfl hd fun H1 g1 z oq => ?_
  refine kk.2 p l e R s m' args below meth c H1 _ lsA n0 w0 Q cx hl (hR.set (pm_arr' (by decide) ⟨hBa, cA, hA, hRA, ?_⟩) z oq) (pm_lo hlo hBa) e1 e2 e3 e4 hq
  rw [g1, pm_bool_nar hxx, vp_cell_i, vp_cell_i, arrV_store]
  congr 2
  funext q
  by_cases hq : q = i.toNatClampNeg
  · subst hq
    simp [updV, va_up]
  · simp [updV, va_up, hq]
theorem px_aastore {a t m v ci : Nat} {q : vw_C} {vs : List Value} {g : Nat → Option Nat} {i : Int32} (hq0 : pm_cl[ci]? = some q) (hC : pm_ty t = .object q.1) (hd : decode μ.2.1 pc = .ok (.aastore, 1)) (ha : f a = some (.inl (t, m, .inr (.inr (.inr (.inr g)))))) (ht : t ≠ 9) (hi : 0 ≤ i.toInt ∧ i.toInt < m) (hv : f v = some (.inr (ci, vs))) (kk : EX B D d μ (pc + 1) ls st (n, w, va_up f a (some (.inl (t, m, .inr (.inr (.inr (.inr (va_up g i.toNatClampNeg (some v))))))))) r h1) : EX B D d μ pc ls (.ref v :: .int i :: .ref a :: st) (n, w, f) r h1 := by
  refine ⟨kk.1, fun p l e R s m' args below meth c H locs lsA n0 w0 Q cx hl hR hlo e1 e2 e3 e4 hq => ?_⟩
  obtain ⟨hBa, cA, hA, hRA, hc⟩ := pm_arr (hR.2.2 a _ ha) ht
  have hRA' := hRA
  rw [hC] at hRA'
  have hin := pm_rin hi
  have hlt : i.toNatClampNeg < m := Nat.not_le.mp fun q => hin (Or.inr q)
  have h0 : ¬ i < 0 := fun q => hin (Or.inl q)
  obtain ⟨-, r', hr', cellV, g1, g2, g3, -⟩ := hR.2.2 v _ hv
  have hcls := (cx.2.2.2.2.2.2.2.2.1.1.1 ci q hq0).2
  obtain ⟨kA, comp, k1, k2, k3, -⟩ := hRA'
  have hcomp : comp = D.1 ci := Option.some.inj (k3.symm.trans hcls.1)
  subst hcomp
  obtain ⟨kC, hkC, -⟩ := hcls.2
  refine W.aast cx.1 cx.2.1 hc (fun q h => by cases h) (fun h => by cases h) k1 k2 rfl hkC ⟨h0, by show _ < (arrV _ _ _).slots.size; rw [arrV_size]; exact hlt⟩ g1 (fun q h => by rw [g3] at h; cases h) (by rw [g2]; exact hkC) (by rw [g2]; exact va_assign hcls) rfl rfl hd fun H1 g4 z oq => ?_
  refine kk.2 p l e R s m' args below meth c H1 _ lsA n0 w0 Q cx hl (hR.set (pm_arr' ht ⟨hBa, cA, hA, hRA, ?_⟩) z oq) (pm_lo hlo hBa) e1 e2 e3 e4 hq
  rw [g4, vp_cell_q, vp_cell_q, arrV_store]
  congr 2
  funext q
  by_cases hq : q = i.toNatClampNeg
  · subst hq
    simp [updV, va_up, va_rf]
  · simp [updV, va_up, hq]
theorem px_aastoreN {a t m : Nat} {C : String} {g : Nat → Option Nat} {i : Int32} (hC : pm_ty t = .object C) (hd : decode μ.2.1 pc = .ok (.aastore, 1)) (ha : f a = some (.inl (t, m, .inr (.inr (.inr (.inr g)))))) (ht : t ≠ 9) (hi : 0 ≤ i.toInt ∧ i.toInt < m) (kk : EX B D d μ (pc + 1) ls st (n, w, va_up f a (some (.inl (t, m, .inr (.inr (.inr (.inr (va_up g i.toNatClampNeg none)))))))) r h1) : EX B D d μ pc ls (.null :: .int i :: .ref a :: st) (n, w, f) r h1 := by
  refine ⟨kk.1, fun p l e R s m' args below meth c H locs lsA n0 w0 Q cx hl hR hlo e1 e2 e3 e4 hq => ?_⟩
  obtain ⟨hBa, cA, hA, hRA, hc⟩ := pm_arr (hR.2.2 a _ ha) ht
  have hA' := hA
  rw [hC] at hA'
  have hin := pm_rin hi
  refine va_WaastN (C := C) cx.1 cx.2.1 hc (hA' m (fun j => va_rf (g j))) (fun h => by cases h) (by show ¬ (i < 0 ∨ (arrV _ _ _).slots.size ≤ _); rw [arrV_size]; exact hin) rfl rfl hd fun H1 g4 z oq => ?_
  refine kk.2 p l e R s m' args below meth c H1 _ lsA n0 w0 Q cx hl (hR.set (pm_arr' ht ⟨hBa, cA, hA, hRA, ?_⟩) z oq) (pm_lo hlo hBa) e1 e2 e3 e4 hq
  rw [g4, vp_cell_q, vp_cell_q, arrV_store]
  congr 2
  funext q
  by_cases hq : q = i.toNatClampNeg
  · subst hq
    simp [updV, va_up, va_rf]
  · simp [updV, va_up, hq]
end PY
end
section
/-! what is made; calls -/
theorem pm_gw_good : ∀ w ∈ pm_gw, (w.onTables && w.keeps) = true ∨ ∃ ty, w = .arrayClass ty := fun _ h => good_of_word (List.mem_filter.mp h).2
/-- a method's own words -/
def pm_mok (ν : pm_M) (k : Nat) : Prop := Cond.code ν.1 ν.2.1 ν.2.2.1 ν.2.2.2 ∈ pm_gw ∧ Cond.initialized ν.1.cls ∈ pm_gw ∧ (ν.1.cls ≠ "java/lang/invoke/MethodHandle" ∧ ν.1.cls ≠ "java/lang/invoke/VarHandle") ∧ (parseMethodDescriptor ν.1.desc).map (fun d => d.parameters.length) = some k ∧ ν.2.2.1 ≤ 20
def pm_lkN (own : String) (i : Nat) (y : MethodName) : Prop := ∃ host : String, Cond.methodLinkNest own i y host ∈ lw_tbl
theorem pm_defq (N : Nat) : (fun j => Value.int ((fun _ : Nat => (0 : Int32)) j)) = (fun _ : Nat => defaultValue .int) := rfl
section PZ
variable {B : Nat} {D : va_G} {d : Nat} {μ : pm_M} {pc : Nat} {ls : pm_Ls} {st : List Value} {n w : Nat} {f : Nat → Option va_E} {r : Option Value} {h1 : pm_H}
theorem px_new {i ci N : Nat} {C : String} {T : u_T} {fs : List Value} (hc : pm_cl[ci]? = some (C, T, N)) (hl : Cond.classLink μ.1.cls i C ∈ pm_gw) (hi : Cond.instantiable C N ∈ pm_gw) (hini : Cond.initialized C ∈ pm_gw) (ty : Nat → FieldType) (hty : ∀ k, k < N → parseFieldDescriptor (T k).2.2.1 = some (ty k)) (hfs : ∀ j, j < N → defaultValue (ty j) = vp_V fs j) (hd : decode μ.2.1 pc = .ok (.new i, 3))
    (kk : EX B D d μ (pc + 3) ls (.ref n :: st) (n + 1, w + N, va_up f n (some (.inr (ci, fs)))) r h1) : EX B D d μ pc ls st (n, w, f) r h1 := by
  have k1 : n + 1 ≤ h1.1 := kk.1.1
  have k2 : w + N ≤ h1.2.1 := kk.1.2
  refine ⟨⟨by show n ≤ h1.1; omega, by show w ≤ h1.2.1; omega⟩, fun p l e R s m args below meth c H locs lsA n0 w0 Q cx hl' hR hlo e1 e2 e3 e4 hq => ?_⟩
  have hKn := cx.2.2.2.2.2.2.2.2.1.1.1 ci _ hc
  have hts := cx.2.2.2.2.2.1
  dsimp only at e1 e2 ⊢
  refine W.newcK cx.1 cx.2.1 cx.2.2.2.2.1 (hts _ hl) (hts _ hi) (hts _ hini) rfl hd (by omega) (by omega) hKn.2.1 hR.1 fun H1 kC hkC g1 z1 o1 => ?_
  refine W.cs (cells' := (n + 1) - n0) (slots' := (w + N) - w0) (by omega) (by omega) ?_
  refine kk.2 p l e R s m args below meth c H1 locs lsA n0 w0 Q cx hl' (hR.push ⟨hR.2.1, _, hc, (u_born ty hts (pm_cl_ok hc).1 hKn hkC g1 hty).to hfs⟩ z1 o1) hlo (by show n0 ≤ n + 1; omega) (by show w0 ≤ w + N; omega) e3 e4 hq
theorem px_newarr {at_ : ArrayType} {t k : Nat} {g : vp_A} {x : Int32} (ht : newarray.typeOf at_ = pm_ty t) (ht9 : t ≠ 9) (hA : Cond.arrayClass (newarray.typeOf at_) ∈ pm_gw) (hg : ∀ cA : ClassId, vp_cell cA g = arrV cA k (fun _ => defaultValue (newarray.typeOf at_))) (hRA : ∀ (s : State) (cA : ClassId), s.vm.findClass ("[" ++ (newarray.typeOf at_).toString) = some cA → va_RA s cA (newarray.typeOf at_)) (hx0 : ¬ x < 0) (hxk : x.toNatClampNeg = k) (hby : k * componentBytes (newarray.typeOf at_) ≤ 536870912) (hd : decode μ.2.1 pc = .ok (.newarray at_, 2))
    (kk : EX B D d μ (pc + 2) ls (.ref n :: st) (n + 1, w + k, va_up f n (some (.inl (t, g)))) r h1) : EX B D d μ pc ls (.int x :: st) (n, w, f) r h1 := by
  have k1 : n + 1 ≤ h1.1 := kk.1.1
  have k2 : w + k ≤ h1.2.1 := kk.1.2
  refine ⟨⟨by show n ≤ h1.1; omega, by show w ≤ h1.2.1; omega⟩, fun p l e R s m args below meth c H locs lsA n0 w0 Q cx hl' hR hlo e1 e2 e3 e4 hq => ?_⟩
  have hts := cx.2.2.2.2.2.1
  dsimp only at e1 e2 ⊢
  refine va_newaK cx.1 cx.2.1 (hts _ hA) rfl hd rfl hx0 hxk hby (by omega) (by omega) hR.1 fun H1 cA g1 z1 o1 hAr hNm => ?_
  refine W.cs (cells' := (n + 1) - n0) (slots' := (w + k) - w0) (by omega) (by omega) ?_
  refine kk.2 p l e R s m args below meth c H1 locs lsA n0 w0 Q cx hl' (hR.push (pm_arr' ht9 ⟨hR.2.1, cA, by rw [← ht]; exact hAr, by rw [← ht]; exact hRA s cA hNm, by rw [hg]; exact g1⟩) z1 o1) hlo (by show n0 ≤ n + 1; omega) (by show w0 ≤ w + k; omega) e3 e4 hq
theorem px_newint {k : Nat} {x : Int32} (hA : Cond.arrayClass .int ∈ pm_gw) (hx0 : ¬ x < 0) (hxk : x.toNatClampNeg = k) (hby : k * 4 ≤ 536870912) (hd : decode μ.2.1 pc = .ok (.newarray .int, 2))
    (kk : EX B D d μ (pc + 2) ls (.ref n :: st) (n + 1, w + k, va_up f n (some (.inl (0, k, .inl (fun _ => 0))))) r h1) : EX B D d μ pc ls (.int x :: st) (n, w, f) r h1 :=
  px_newarr (at_ := .int) (t := 0) rfl (by decide) hA (fun _ => rfl) (fun _ _ h => h) hx0 hxk hby hd kk
theorem px_newbool {k : Nat} {x : Int32} (hA : Cond.arrayClass .boolean ∈ pm_gw) (hx0 : ¬ x < 0) (hxk : x.toNatClampNeg = k) (hby : k * 1 ≤ 536870912) (hd : decode μ.2.1 pc = .ok (.newarray .boolean, 2))
    (kk : EX B D d μ (pc + 2) ls (.ref n :: st) (n + 1, w + k, va_up f n (some (.inl (2, k, .inl (fun _ => 0))))) r h1) : EX B D d μ pc ls (.int x :: st) (n, w, f) r h1 :=
  px_newarr (at_ := .boolean) (t := 2) rfl (by decide) hA (fun _ => rfl) (fun _ _ h => h) hx0 hxk hby hd kk
theorem px_newlong {k : Nat} {x : Int32} (hA : Cond.arrayClass .long ∈ pm_gw) (hx0 : ¬ x < 0) (hxk : x.toNatClampNeg = k) (hby : k * 8 ≤ 536870912) (hd : decode μ.2.1 pc = .ok (.newarray .long, 2))
    (kk : EX B D d μ (pc + 2) ls (.ref n :: st) (n + 1, w + k, va_up f n (some (.inl (1, k, .inr (.inl (fun _ => 0)))))) r h1) : EX B D d μ pc ls (.int x :: st) (n, w, f) r h1 :=
  px_newarr (at_ := .long) (t := 1) rfl (by decide) hA (fun _ => rfl) (fun _ _ h => h) hx0 hxk hby hd kk
theorem px_anew {i t k : Nat} {C : String} {x : Int32} (hC : pm_ty t = .object C) (ht9 : t ≠ 9) (hl : Cond.classLink μ.1.cls i C ∈ pm_gw) (hov : Cond.arrayOver (.object C) ∈ lw_tbl) (hx0 : ¬ x < 0) (hxk : x.toNatClampNeg = k) (hby : k * 4 ≤ 536870912) (hd : decode μ.2.1 pc = .ok (.anewarray i, 3))
    (kk : EX B D d μ (pc + 3) ls (.ref n :: st) (n + 1, w + k, va_up f n (some (.inl (t, k, .inr (.inr (.inr (.inr (fun _ => none)))))))) r h1) : EX B D d μ pc ls (.int x :: st) (n, w, f) r h1 := by
  have k1 : n + 1 ≤ h1.1 := kk.1.1
  have k2 : w + k ≤ h1.2.1 := kk.1.2
  refine ⟨⟨by show n ≤ h1.1; omega, by show w ≤ h1.2.1; omega⟩, fun p l e R s m args below meth c H locs lsA n0 w0 Q cx hl' hR hlo e1 e2 e3 e4 hq => ?_⟩
  have hts := cx.2.2.2.2.2.1
  have hover := cx.2.2.2.2.2.2.2.2.1.2.2 C hov
  dsimp only at e1 e2 ⊢
  subst hxk
  refine W.anew cx.1 cx.2.1 cx.2.2.2.2.1 (hts _ hl) (va_AO.use hover) rfl hd rfl hx0 hby (by omega) (by omega) fun cA kA comp f1 f2 f3 f4 => ?_
  have hsz := hR.1
  dsimp only at hsz
  generalize hH1 : H.push ({ cls := cA, slots := Array.replicate x.toNatClampNeg .null, vm := .none } : Cell) = H1
  have z1 : H1.size = n + 1 := by rw [← hH1, Array.size_push, hsz]
  have g1 : H1[n]? = some (arrV cA x.toNatClampNeg (fun _ => .null)) := by rw [← hH1, ← hsz, Array.getElem?_push_size, ← arrV_new]
  have o1 : ∀ q : Nat, q < n → H1[q]? = H[q]? := fun q hq => by rw [← hH1, Array.getElem?_push, if_neg (by omega)]
  have hAr : ArrOfT s cA (.object C) := fun N z => ⟨(fun k h => by cases h), kA, f2, comp, f3⟩
  rw [hsz]
  refine W.cs (cells' := (n + 1) - n0) (slots' := (w + x.toNatClampNeg) - w0) (by omega) (by omega) ?_
  refine kk.2 p l e R s m args below meth c H1 locs lsA n0 w0 Q cx hl' (hR.push (pm_arr' ht9 ⟨hR.2.1, cA, by rw [hC]; exact hAr, by rw [hC]; exact ⟨kA, comp, f2, f3, f4, f1⟩, by rw [vp_cell_q]; exact g1⟩) z1 o1) hlo (by show n0 ≤ n + 1; omega) (by show w0 ≤ w + _; omega) e3 e4 hq
theorem pm_rest4 {st : List Value} (h : st.length ≤ 4) : (st.map fun v => v.category).sum ≤ 8 := by
  have key : ∀ (l : List Value), (l.map fun v => v.category).sum ≤ 2 * l.length := by
    intro l
    induction l with
    | nil => exact Nat.le_refl _
    | cons a t ih =>
      have : a.category ≤ 2 := by cases a <;> simp [Value.category]
      simp only [List.map_cons, List.sum_cons, List.length_cons]
      omega
  have := key st
  omega
theorem px_objinit {i a : Nat} (hl : Cond.methodLink μ.1.cls i objectInit ∈ pm_gw) (hin : Cond.instanceMethod objectInit ∈ pm_gw) (hco : Cond.code objectInit ⟨#[0xb1]⟩ 1 none ∈ pm_gw) (hd0 : 1 ≤ d) (hst : st.length ≤ 4) (hd : decode μ.2.1 pc = .ok (.invokespecial i, 3)) (kk : EX B D d μ (pc + 3) ls st (n, w, f) r h1) : EX B D d μ pc ls (.ref a :: st) (n, w, f) r h1 := by
  refine ⟨kk.1, fun p l e R s m args below meth c H locs lsA n0 w0 Q cx hl' hR hlo e1 e2 e3 e4 hq => ?_⟩
  have hts := cx.2.2.2.2.2.1
  have h8 := pm_rest4 hst
  have hR1 := cx.2.2.2.2.2.2.2.2.2.1
  have hR2 := cx.2.2.2.2.2.2.2.2.2.2
  exact W.objInit cx.1 cx.2.1 cx.2.2.2.2.1 (hts _ hl) (hts _ hin) (hts _ hco) rfl (by rw [cx.2.2.2.1]; exact hl'.1) rfl hd (by omega) (by show 2 * 0 + _ + 12 ≤ _; omega) (W.eq (g2 := F0 m (pc + 3) lsA st) rfl (kk.2 p l e R s m args below meth c H locs lsA n0 w0 Q cx hl' hR hlo e1 e2 e3 e4 hq))
/-- behind a call -/
theorem pm_after {p : Program} {l : Launch} {e : Env} {R : Room} {s : State} {m : MethodId} {args : Array Value} {below : List Frame} {meth : Method} {c : Code} {H : Heap} {locs : List Loc} {lsA : Array Slot} {n0 w0 : Nat} {Q : State → Prop} {h h2 : pm_H} {v : Option Value} {st0 : List Value} (hr : va_Run p l e R s m args below meth c H locs (h.1 - n0) (h.2.1 - w0) (h2.1 - h.1) (h2.2.1 - h.2.1) (F0 m pc lsA st0) st (fun _ o t => o = .returned v ∧ pm_R B D t t.heap h2) (fun q => B ≤ q)) (hm : h.1 ≤ h2.1 ∧ h.2.1 ≤ h2.2.1) (hlo : ∀ q ∈ locs, B ≤ q.base) (e1 : n0 ≤ h.1) (e2 : w0 ≤ h.2.1)
    (kk : EX B D d μ (pc + 3) ls (v.toList ++ st) h2 r h1) (cx : pm_cx D d μ p R s m args meth c) (hl : pm_L lsA μ.2.2.1 ls) (e3 : h1.1 - n0 ≤ R.cells) (e4 : h1.2.1 - w0 ≤ R.slots) (hq : pm_end B D μ r h1 p l e R s m args below meth c n0 w0 Q) : W p l e R s m args below meth c H locs (h.1 - n0) (h.2.1 - w0) Q (F0 m pc lsA st0) := by
  intro T hT X
  obtain ⟨v', st₀, t, T', L, g0, X', hL, f1, f2, ⟨hv, hR1⟩, stp⟩ := hr T hT X
  cases hv
  rw [show h.1 - n0 + (h2.1 - h.1) = h2.1 - n0 by omega, show h.2.1 - w0 + (h2.2.1 - h.2.1) = h2.2.1 - w0 by omega] at X'
  obtain ⟨t2, a1, b1⟩ := kk.2 p l e R s m args below meth c T'.heap (locs ++ L) lsA n0 w0 Q cx hl (by
      rw [f1]
      exact hR1.moved (by rw [← f2]; exact X'.warmed.alike.symm)) (fun q hq => by
      rcases List.mem_append.mp hq with h | h
      · exact hlo q h
      · exact hL q h) (by omega) (by omega) e3 e4 hq T' rfl X'
  exact ⟨t2, stp t2 a1, b1⟩
theorem pm_pay {s : State} {args : Array Value} {ν : pm_M} {k : Nat} (hts : ∀ w ∈ pm_gw, w.before args s = true) (hν : pm_mok ν k) : ∀ w ∈ pm_ws ν, ∀ (a' : Array Value) (U : State), s.WarmedH U.vm → w.before a' U = true := by
  intro w hw a' U hW
  have h1 : w ∈ pm_gw := by
    rcases List.mem_cons.mp hw with h | h
    · rw [h]; exact hν.1
    · exact h
  exact word_at hW (pm_gw_good w h1) (hts w h1)
theorem pm_blind {as : List Value} {h : pm_H} : FrameBlind (fun a U => a = as.toArray ∧ pm_K D U ∧ pm_R B D U U.heap h) := by
  intro a U g mk q
  exact ⟨q.1, q.2.1.same rfl, q.2.2.moved (u := U) (U := U.calling g mk a) (Vm.Alike.refl U.vm)⟩
theorem px_callV {ν : pm_M} {i ci b k d1 : Nat} {q : vw_C} {As sk : List Value} {v : Option Value} {fs : List Value} {h2 : pm_H} (hq0 : pm_cl[ci]? = some q) (hqc : q.1 = ν.1.cls) (hl : Cond.methodLink μ.1.cls i ν.1 ∈ pm_gw) (hin : Cond.instanceMethod ν.1 ∈ pm_gw) (hse : Cond.selects ν.1.cls ν.1 ν.1 ∈ pm_gw) (hν : pm_mok ν k) (hd : decode μ.2.1 pc = .ok (.invokevirtual i, 3)) (hC : CT B D d1 ν (.ref b :: As) (n, w, f) v h2) (hb : f b = some (.inr (ci, fs))) (hk : As.length = k) (hsk : sk = As.reverse ++ .ref b :: st) (hdd : d1 + 1 ≤ d) (hst : st.length ≤ 4)
    (kk : EX B D d μ (pc + 3) ls (v.toList ++ st) h2 r h1) : EX B D d μ pc ls sk (n, w, f) r h1 := by
  refine ⟨⟨Nat.le_trans hC.1.1 kk.1.1, Nat.le_trans hC.1.2 kk.1.2⟩, fun p l e R s m args below meth c H locs lsA n0 w0 Q cx hl' hR hlo e1 e2 e3 e4 hq => ?_⟩
  have hts := cx.2.2.2.2.2.1
  have hm := hC.1
  have hm2 := kk.1
  have hR1 := cx.2.2.2.2.2.2.2.2.2.1
  have hR2 := cx.2.2.2.2.2.2.2.2.2.2
  have hν5 := hν.2.2.2.2
  refine pm_after (h := (n, w, f)) (h2 := h2) (st0 := sk) ?_ hm hlo e1 e2 kk cx hl' e3 e4 hq
  subst hsk
  refine va_runV (cc := μ.2.1) (nL := μ.2.2.1) (Ts := pm_gw) (own := μ.1.cls) (C := ν.1.cls) (y := ν.1) (bytes := ν.2.1) (maxL := ν.2.2.1) (ret := ν.2.2.2) (n := k) (b := b) (As := As) ⟨cx.1, cx.2.1, cx.2.2.2.1, cx.2.2.2.2.1, hts⟩ (hC.2 l) ⟨⟨rfl, rfl, ?_, ?_, pm_pay hts hν, List.mem_cons_self, hts _ hν.1, hts _ hν.2.1, hν.2.2.1, ?_, hts _ hl⟩, hts _ hin, hts _ hse⟩ ⟨pm_blind, ?_, ?_⟩ rfl hk hl'.1 rfl ?_ hd ⟨?_, ?_⟩
  · show d1 + 1 ≤ R.frames; omega
  · show 8 + (ν.2.2.1 + 11) + 40 * d1 ≤ R.locals; omega
  · intro sig hs
    have := hν.2.2.2.1
    rw [hs] at this
    exact (Option.some.inj this).symm
  · obtain ⟨q', h1', cell, g1, g2, g3, -⟩ := (hR.2.2 b _ hb).2
    have hr : q' = q := Option.some.inj (h1'.symm.trans hq0)
    subst hr
    exact ⟨cell, g1, by rw [g3]; rfl, by rw [g2, ← hqc]; exact (cx.2.2.2.2.2.2.2.2.1.1.1 ci _ hq0).2.1⟩
  · intro U hU hW
    exact ⟨rfl, cx.2.2.2.2.2.2.2.2.1.warm hW, by rw [hU]; exact hR.moved hW.alike⟩
  · exact lv_room (pm_rest4 hst)
  · show n - n0 + (h2.1 - n) ≤ R.cells
    have := hm2.1; dsimp only at hm e1; omega
  · show w - w0 + (h2.2.1 - w) ≤ R.slots
    have := hm2.2; dsimp only at hm e2; omega
theorem px_callS {ν : pm_M} {i k d1 : Nat} {As sk : List Value} {v : Option Value} {h2 : pm_H} (hl : Cond.methodLink μ.1.cls i ν.1 ∈ pm_gw) (hstt : Cond.static ν.1 ∈ pm_gw) (hν : pm_mok ν k) (hd : decode μ.2.1 pc = .ok (.invokestatic i, 3)) (hC : CT B D d1 ν As (n, w, f) v h2) (hk : As.length = k) (hsk : sk = As.reverse ++ st) (hdd : d1 + 1 ≤ d) (hst : st.length ≤ 4)
    (kk : EX B D d μ (pc + 3) ls (v.toList ++ st) h2 r h1) : EX B D d μ pc ls sk (n, w, f) r h1 := by
  refine ⟨⟨Nat.le_trans hC.1.1 kk.1.1, Nat.le_trans hC.1.2 kk.1.2⟩, fun p l e R s m args below meth c H locs lsA n0 w0 Q cx hl' hR hlo e1 e2 e3 e4 hq => ?_⟩
  have hts := cx.2.2.2.2.2.1
  have hm := hC.1
  have hm2 := kk.1
  have hR1 := cx.2.2.2.2.2.2.2.2.2.1
  have hR2 := cx.2.2.2.2.2.2.2.2.2.2
  have hν5 := hν.2.2.2.2
  refine pm_after (h := (n, w, f)) (h2 := h2) (st0 := sk) ?_ hm hlo e1 e2 kk cx hl' e3 e4 hq
  subst hsk
  refine va_runS (cc := μ.2.1) (nL := μ.2.2.1) (Ts := pm_gw) (own := μ.1.cls) (y := ν.1) (bytes := ν.2.1) (maxL := ν.2.2.1) (ret := ν.2.2.2) (n := k) (As := As) ⟨cx.1, cx.2.1, cx.2.2.2.1, cx.2.2.2.2.1, hts⟩ (hC.2 l) ⟨⟨rfl, rfl, ?_, ?_, pm_pay hts hν, List.mem_cons_self, hts _ hν.1, hts _ hν.2.1, hν.2.2.1, ?_, hts _ hl⟩, hts _ hstt⟩ ⟨pm_blind, ?_⟩ rfl hk hl'.1 rfl ?_ hd ⟨?_, ?_⟩
  · show d1 + 1 ≤ R.frames; omega
  · show 8 + (ν.2.2.1 + 11) + 40 * d1 ≤ R.locals; omega
  · intro sig hs
    have := hν.2.2.2.1
    rw [hs] at this
    exact (Option.some.inj this).symm
  · intro U hU hW
    exact ⟨rfl, cx.2.2.2.2.2.2.2.2.1.warm hW, by rw [hU]; exact hR.moved hW.alike⟩
  · exact lv_room (pm_rest4 hst)
  · show n - n0 + (h2.1 - n) ≤ R.cells
    have := hm2.1; dsimp only at hm e1; omega
  · show w - w0 + (h2.2.1 - w) ≤ R.slots
    have := hm2.2; dsimp only at hm e2; omega
theorem px_callSN {ν : pm_M} {i k d1 : Nat} {As sk : List Value} {v : Option Value} {h2 : pm_H} (hl : pm_lkN μ.1.cls i ν.1) (hstt : Cond.static ν.1 ∈ pm_gw) (hν : pm_mok ν k) (hd : decode μ.2.1 pc = .ok (.invokestatic i, 3)) (hC : CT B D d1 ν As (n, w, f) v h2) (hk : As.length = k) (hsk : sk = As.reverse ++ st) (hdd : d1 + 1 ≤ d) (hst : st.length ≤ 4)
    (kk : EX B D d μ (pc + 3) ls (v.toList ++ st) h2 r h1) : EX B D d μ pc ls sk (n, w, f) r h1 := by
  refine ⟨⟨Nat.le_trans hC.1.1 kk.1.1, Nat.le_trans hC.1.2 kk.1.2⟩, fun p l e R s m args below meth c H locs lsA n0 w0 Q cx hl' hR hlo e1 e2 e3 e4 hq => ?_⟩
  have hts := cx.2.2.2.2.2.1
  have hm := hC.1
  have hm2 := kk.1
  have hR1 := cx.2.2.2.2.2.2.2.2.2.1
  have hR2 := cx.2.2.2.2.2.2.2.2.2.2
  have hν5 := hν.2.2.2.2
  obtain ⟨host, hln⟩ := hl
  refine pm_after (h := (n, w, f)) (h2 := h2) (st0 := sk) ?_ hm hlo e1 e2 kk cx hl' e3 e4 hq
  subst hsk
  refine va_runSN (cc := μ.2.1) (nL := μ.2.2.1) (Ts := pm_gw) (own := μ.1.cls) (host := host) (y := ν.1) (bytes := ν.2.1) (maxL := ν.2.2.1) (ret := ν.2.2.2) (n := k) (As := As) ⟨cx.1, cx.2.1, cx.2.2.2.1, cx.2.2.2.2.1, hts⟩ (hC.2 l) ⟨⟨⟨rfl, rfl, ?_, ?_, pm_pay hts hν, List.mem_cons_self⟩, hts _ hν.1, hts _ hν.2.1, hν.2.2.1, ?_, va_Nw.use rfl (cx.2.2.2.2.2.2.2.2.1.2.1 _ _ _ _ hln)⟩, hts _ hstt, trivial⟩ ⟨pm_blind, ?_⟩ rfl hk hl'.1 rfl ?_ hd ⟨?_, ?_⟩
  · show d1 + 1 ≤ R.frames; omega
  · show 8 + (ν.2.2.1 + 11) + 40 * d1 ≤ R.locals; omega
  · intro sig hs
    have := hν.2.2.2.1
    rw [hs] at this
    exact (Option.some.inj this).symm
  · intro U hU hW
    exact ⟨rfl, cx.2.2.2.2.2.2.2.2.1.warm hW, by rw [hU]; exact hR.moved hW.alike⟩
  · exact lv_room (pm_rest4 hst)
  · show n - n0 + (h2.1 - n) ≤ R.cells
    have := hm2.1; dsimp only at hm e1; omega
  · show w - w0 + (h2.2.1 - w) ≤ R.slots
    have := hm2.2; dsimp only at hm e2; omega
theorem px_callI {ν : pm_M} {i b k d1 : Nat} {As sk : List Value} {h2 : pm_H} (hret : ν.2.2.2 = none) (hini : ν.1.name = "<init>") (hl : Cond.methodLink μ.1.cls i ν.1 ∈ pm_gw) (hin : Cond.instanceMethod ν.1 ∈ pm_gw) (hν : pm_mok ν k) (hd : decode μ.2.1 pc = .ok (.invokespecial i, 3)) (hC : CT B D d1 ν (.ref b :: As) (n, w, f) none h2) (hk : As.length = k) (hsk : sk = As.reverse ++ .ref b :: st) (hdd : d1 + 1 ≤ d) (hst : st.length ≤ 4)
    (kk : EX B D d μ (pc + 3) ls st h2 r h1) : EX B D d μ pc ls sk (n, w, f) r h1 := by
  refine ⟨⟨Nat.le_trans hC.1.1 kk.1.1, Nat.le_trans hC.1.2 kk.1.2⟩, fun p l e R s m args below meth c H locs lsA n0 w0 Q cx hl' hR hlo e1 e2 e3 e4 hq => ?_⟩
  have hts := cx.2.2.2.2.2.1
  have hm := hC.1
  have hm2 := kk.1
  have hR1 := cx.2.2.2.2.2.2.2.2.2.1
  have hR2 := cx.2.2.2.2.2.2.2.2.2.2
  have hν5 := hν.2.2.2.2
  refine pm_after (h := (n, w, f)) (h2 := h2) (st0 := sk) (v := none) ?_ hm hlo e1 e2 kk cx hl' e3 e4 hq
  subst hsk
  refine va_runI (cc := μ.2.1) (nL := μ.2.2.1) (Ts := pm_gw) (own := μ.1.cls) (y := ν.1) (bytes := ν.2.1) (maxL := ν.2.2.1) (n := k) (b := b) (As := As) ⟨cx.1, cx.2.1, cx.2.2.2.1, cx.2.2.2.2.1, hts⟩ (hC.2 l) ⟨⟨rfl, rfl, ?_, ?_, pm_pay hts hν, by rw [← hret]; exact List.mem_cons_self, by rw [← hret]; exact hts _ hν.1, hts _ hν.2.1, hν.2.2.1, ?_, hts _ hl⟩, hini, hts _ hin⟩ ⟨pm_blind, ?_⟩ rfl hk hl'.1 rfl ?_ hd ⟨?_, ?_⟩
  · show d1 + 1 ≤ R.frames; omega
  · show 8 + (ν.2.2.1 + 11) + 40 * d1 ≤ R.locals; omega
  · intro sig hs
    have := hν.2.2.2.1
    rw [hs] at this
    exact (Option.some.inj this).symm
  · intro U hU hW
    exact ⟨rfl, cx.2.2.2.2.2.2.2.2.1.warm hW, by rw [hU]; exact hR.moved hW.alike⟩
  · exact lv_room (pm_rest4 hst)
  · show n - n0 + (h2.1 - n) ≤ R.cells
    have := hm2.1; dsimp only at hm e1; omega
  · show w - w0 + (h2.2.1 - w) ≤ R.slots
    have := hm2.2; dsimp only at hm e2; omega
theorem px_callIN {ν : pm_M} {i b k d1 : Nat} {As sk : List Value} {h2 : pm_H} (hret : ν.2.2.2 = none) (hini : ν.1.name = "<init>") (hl : pm_lkN μ.1.cls i ν.1) (hin : Cond.instanceMethod ν.1 ∈ pm_gw) (hν : pm_mok ν k) (hd : decode μ.2.1 pc = .ok (.invokespecial i, 3)) (hC : CT B D d1 ν (.ref b :: As) (n, w, f) none h2) (hk : As.length = k) (hsk : sk = As.reverse ++ .ref b :: st) (hdd : d1 + 1 ≤ d) (hst : st.length ≤ 4)
    (kk : EX B D d μ (pc + 3) ls st h2 r h1) : EX B D d μ pc ls sk (n, w, f) r h1 := by
  refine ⟨⟨Nat.le_trans hC.1.1 kk.1.1, Nat.le_trans hC.1.2 kk.1.2⟩, fun p l e R s m args below meth c H locs lsA n0 w0 Q cx hl' hR hlo e1 e2 e3 e4 hq => ?_⟩
  have hts := cx.2.2.2.2.2.1
  have hm := hC.1
  have hm2 := kk.1
  have hR1 := cx.2.2.2.2.2.2.2.2.2.1
  have hR2 := cx.2.2.2.2.2.2.2.2.2.2
  have hν5 := hν.2.2.2.2
  obtain ⟨host, hln⟩ := hl
  refine pm_after (h := (n, w, f)) (h2 := h2) (st0 := sk) (v := none) ?_ hm hlo e1 e2 kk cx hl' e3 e4 hq
  subst hsk
  refine va_runIN (cc := μ.2.1) (nL := μ.2.2.1) (Ts := pm_gw) (own := μ.1.cls) (host := host) (y := ν.1) (bytes := ν.2.1) (maxL := ν.2.2.1) (n := k) (b := b) (As := As) ⟨cx.1, cx.2.1, cx.2.2.2.1, cx.2.2.2.2.1, hts⟩ (hC.2 l) ⟨⟨⟨rfl, rfl, ?_, ?_, pm_pay hts hν, by rw [← hret]; exact List.mem_cons_self⟩, by rw [← hret]; exact hts _ hν.1, hts _ hν.2.1, hν.2.2.1, ?_, va_Nw.use rfl (cx.2.2.2.2.2.2.2.2.1.2.1 _ _ _ _ hln)⟩, hini, hts _ hin⟩ ⟨pm_blind, ?_⟩ rfl hk hl'.1 rfl ?_ hd ⟨?_, ?_⟩
  · show d1 + 1 ≤ R.frames; omega
  · show 8 + (ν.2.2.1 + 11) + 40 * d1 ≤ R.locals; omega
  · intro sig hs
    have := hν.2.2.2.1
    rw [hs] at this
    exact (Option.some.inj this).symm
  · intro U hU hW
    exact ⟨rfl, cx.2.2.2.2.2.2.2.2.1.warm hW, by rw [hU]; exact hR.moved hW.alike⟩
  · exact lv_room (pm_rest4 hst)
  · show n - n0 + (h2.1 - n) ≤ R.cells
    have := hm2.1; dsimp only at hm e1; omega
  · show w - w0 + (h2.2.1 - w) ≤ R.slots
    have := hm2.2; dsimp only at hm e2; omega
/-! returns -/
theorem px_ret {rv : Option Value} (hr : rv.toList = st) (hd : decode μ.2.1 pc = .ok (pm_ret μ.2.2.2, 1)) : EX B D d μ pc ls st (n, w, f) rv (n, w, f) := by
  subst hr
  refine ⟨⟨Nat.le_refl _, Nat.le_refl _⟩, fun p l e R s m args below meth c H locs lsA n0 w0 Q cx hl' hR hlo e1 e2 e3 e4 hq => ?_⟩
  exact hq H locs lsA pc hd hR hlo
/-- the locals may be forgotten -/
theorem px_less {h : pm_H} {ls2 : pm_Ls} (hlen : ls2.length = ls.length) (hle : ∀ (i : Nat) (v : Value), ls2[i]? = some (some v) → ls[i]? = some (some v)) (kk : EX B D d μ pc ls2 st h r h1) : EX B D d μ pc ls st h r h1 := by
  refine ⟨kk.1, fun p l e R s m args below meth c H locs lsA n0 w0 Q cx hl hR hlo e1 e2 e3 e4 hq => ?_⟩
  exact kk.2 p l e R s m args below meth c H locs lsA n0 w0 Q cx ⟨hl.1, hl.2.1, hlen.trans hl.2.2.1, fun i v h => hl.2.2.2 i v (hle i v h)⟩ hR hlo e1 e2 e3 e4 hq
/-- a heap told otherwise -/
theorem px_heap {h h' : pm_H} (he : h = h') (kk : EX B D d μ pc ls st h' r h1) : EX B D d μ pc ls st h r h1 := he ▸ kk
end PZ
end
section
abbrev mX6_init : pm_M := (yX6_init, cX6_init, 2, none)
theorem co_X6_init : Cond.code yX6_init cX6_init 2 none ∈ pm_gw := pm_gw_of 51 (by decide +kernel) rfl
abbrev mX0_init : pm_M := (yX0_init, cX0_init, 1, none)
theorem co_X0_init : Cond.code yX0_init cX0_init 1 none ∈ pm_gw := pm_gw_of 59 (by decide +kernel) rfl
abbrev mX5_init : pm_M := (yX5_init, cX5_init, 2, none)
theorem co_X5_init : Cond.code yX5_init cX5_init 2 none ∈ pm_gw := pm_gw_of 65 (by decide +kernel) rfl
abbrev mX4_init : pm_M := (yX4_init, cX4_init, 1, none)
theorem co_X4_init : Cond.code yX4_init cX4_init 1 none ∈ pm_gw := pm_gw_of 74 (by decide +kernel) rfl
abbrev mX1_ofFailure : pm_M := (yX1_ofFailure, cX1_ofFailure, 4, (some (.object "BuildEngine$Result")))
theorem co_X1_ofFailure : Cond.code yX1_ofFailure cX1_ofFailure 4 (some (.object "BuildEngine$Result")) ∈ pm_gw := pm_gw_of 111 (by decide +kernel) rfl
abbrev mX1_init : pm_M := (yX1_init, cX1_init, 6, none)
theorem co_X1_init : Cond.code yX1_init cX1_init 6 none ∈ pm_gw := pm_gw_of 116 (by decide +kernel) rfl
abbrev mX3_init : pm_M := (yX3_init, cX3_init, 1, none)
theorem co_X3_init : Cond.code yX3_init cX3_init 1 none ∈ pm_gw := pm_gw_of 201 (by decide +kernel) rfl
abbrev mX2_init : pm_M := (yX2_init, cX2_init, 1, none)
theorem co_X2_init : Cond.code yX2_init cX2_init 1 none ∈ pm_gw := pm_gw_of 217 (by decide +kernel) rfl
abbrev mX6_give : pm_M := (yX6_give, cX6_give, 3, (some .int))
theorem co_X6_give : Cond.code yX6_give cX6_give 3 (some .int) ∈ pm_gw := pm_gw_of 257 (by decide +kernel) rfl
abbrev mX6_isInput : pm_M := (yX6_isInput, cX6_isInput, 1, (some .boolean))
theorem co_X6_isInput : Cond.code yX6_isInput cX6_isInput 1 (some .boolean) ∈ pm_gw := pm_gw_of 260 (by decide +kernel) rfl
abbrev mX6_isContent : pm_M := (yX6_isContent, cX6_isContent, 2, (some .boolean))
theorem co_X6_isContent : Cond.code yX6_isContent cX6_isContent 2 (some .boolean) ∈ pm_gw := pm_gw_of 263 (by decide +kernel) rfl
abbrev mX5_giveContent : pm_M := (yX5_giveContent, cX5_giveContent, 4, (some .boolean))
theorem co_X5_giveContent : Cond.code yX5_giveContent cX5_giveContent 4 (some .boolean) ∈ pm_gw := pm_gw_of 269 (by decide +kernel) rfl
abbrev mX5_contentOf : pm_M := (yX5_contentOf, cX5_contentOf, 2, (some (.object "BuildEngine$Result")))
theorem co_X5_contentOf : Cond.code yX5_contentOf cX5_contentOf 2 (some (.object "BuildEngine$Result")) ∈ pm_gw := pm_gw_of 273 (by decide +kernel) rfl
abbrev mX1_ofContent : pm_M := (yX1_ofContent, cX1_ofContent, 1, (some (.object "BuildEngine$Result")))
theorem co_X1_ofContent : Cond.code yX1_ofContent cX1_ofContent 1 (some (.object "BuildEngine$Result")) ∈ pm_gw := pm_gw_of 277 (by decide +kernel) rfl
abbrev mX6_take : pm_M := (yX6_take, cX6_take, 3, (some .int))
theorem co_X6_take : Cond.code yX6_take cX6_take 3 (some .int) ∈ pm_gw := pm_gw_of 281 (by decide +kernel) rfl
abbrev mX5_takeContent : pm_M := (yX5_takeContent, cX5_takeContent, 2, none)
theorem co_X5_takeContent : Cond.code yX5_takeContent cX5_takeContent 2 none ∈ pm_gw := pm_gw_of 286 (by decide +kernel) rfl
abbrev mX6_feed : pm_M := (yX6_feed, cX6_feed, 2, (some .int))
theorem co_X6_feed : Cond.code yX6_feed cX6_feed 2 (some .int) ∈ pm_gw := pm_gw_of 290 (by decide +kernel) rfl
abbrev mX3_append : pm_M := (yX3_append, cX3_append, 2, (some .boolean))
theorem co_X3_append : Cond.code yX3_append cX3_append 2 (some .boolean) ∈ pm_gw := pm_gw_of 294 (by decide +kernel) rfl
abbrev mX6_clear : pm_M := (yX6_clear, cX6_clear, 1, (some .int))
theorem co_X6_clear : Cond.code yX6_clear cX6_clear 1 (some .int) ∈ pm_gw := pm_gw_of 298 (by decide +kernel) rfl
abbrev mX3_empty : pm_M := (yX3_empty, cX3_empty, 2, (some .int))
theorem co_X3_empty : Cond.code yX3_empty cX3_empty 2 (some .int) ∈ pm_gw := pm_gw_of 302 (by decide +kernel) rfl
abbrev mX6_rule : pm_M := (yX6_rule, cX6_rule, 4, (some .int))
theorem co_X6_rule : Cond.code yX6_rule cX6_rule 4 (some .int) ∈ pm_gw := pm_gw_of 306 (by decide +kernel) rfl
abbrev mX5_targetOf : pm_M := (yX5_targetOf, cX5_targetOf, 2, (some (.object "BuildEngine$Target")))
theorem co_X5_targetOf : Cond.code yX5_targetOf cX5_targetOf 2 (some (.object "BuildEngine$Target")) ∈ pm_gw := pm_gw_of 310 (by decide +kernel) rfl
abbrev mX6_isTarget : pm_M := (yX6_isTarget, cX6_isTarget, 1, (some .boolean))
theorem co_X6_isTarget : Cond.code yX6_isTarget cX6_isTarget 1 (some .boolean) ∈ pm_gw := pm_gw_of 313 (by decide +kernel) rfl
abbrev mX3_faultAsRule : pm_M := (yX3_faultAsRule, cX3_faultAsRule, 4, (some .int))
theorem co_X3_faultAsRule : Cond.code yX3_faultAsRule cX3_faultAsRule 4 (some .int) ∈ pm_gw := pm_gw_of 317 (by decide +kernel) rfl
abbrev mX3_letterAt : pm_M := (yX3_letterAt, cX3_letterAt, 2, (some .int))
theorem co_X3_letterAt : Cond.code yX3_letterAt cX3_letterAt 2 (some .int) ∈ pm_gw := pm_gw_of 321 (by decide +kernel) rfl
abbrev mX6_isSign : pm_M := (yX6_isSign, cX6_isSign, 1, (some .boolean))
theorem co_X6_isSign : Cond.code yX6_isSign cX6_isSign 1 (some .boolean) ∈ pm_gw := pm_gw_of 324 (by decide +kernel) rfl
abbrev mX6_asksForKey : pm_M := (yX6_asksForKey, cX6_asksForKey, 1, (some .boolean))
theorem co_X6_asksForKey : Cond.code yX6_asksForKey cX6_asksForKey 1 (some .boolean) ∈ pm_gw := pm_gw_of 327 (by decide +kernel) rfl
abbrev mX6_isFigure : pm_M := (yX6_isFigure, cX6_isFigure, 1, (some .boolean))
theorem co_X6_isFigure : Cond.code yX6_isFigure cX6_isFigure 1 (some .boolean) ∈ pm_gw := pm_gw_of 330 (by decide +kernel) rfl
abbrev mX3_tellsNoKey : pm_M := (yX3_tellsNoKey, cX3_tellsNoKey, 4, (some .boolean))
theorem co_X3_tellsNoKey : Cond.code yX3_tellsNoKey cX3_tellsNoKey 4 (some .boolean) ∈ pm_gw := pm_gw_of 334 (by decide +kernel) rfl
abbrev mX3_numberAt : pm_M := (yX3_numberAt, cX3_numberAt, 2, (some .int))
theorem co_X3_numberAt : Cond.code yX3_numberAt cX3_numberAt 2 (some .int) ∈ pm_gw := pm_gw_of 338 (by decide +kernel) rfl
abbrev mX6_isKey : pm_M := (yX6_isKey, cX6_isKey, 1, (some .boolean))
theorem co_X6_isKey : Cond.code yX6_isKey cX6_isKey 1 (some .boolean) ∈ pm_gw := pm_gw_of 342 (by decide +kernel) rfl
abbrev mX4_readRule : pm_M := (yX4_readRule, cX4_readRule, 3, none)
theorem co_X4_readRule : Cond.code yX4_readRule cX4_readRule 3 none ∈ pm_gw := pm_gw_of 346 (by decide +kernel) rfl
abbrev mJ9_min_7cf53 : pm_M := (yJ9_min_7cf53, cJ9_min_7cf53, 2, (some .int))
theorem co_J9_min_7cf53 : Cond.code yJ9_min_7cf53 cJ9_min_7cf53 2 (some .int) ∈ pm_gw := pm_gw_of 349 (by decide +kernel) rfl
abbrev mX4_dropTrace : pm_M := (yX4_dropTrace, cX4_dropTrace, 1, none)
theorem co_X4_dropTrace : Cond.code yX4_dropTrace cX4_dropTrace 1 none ∈ pm_gw := pm_gw_of 355 (by decide +kernel) rfl
abbrev mX6_drop : pm_M := (yX6_drop, cX6_drop, 4, (some .int))
theorem co_X6_drop : Cond.code yX6_drop cX6_drop 4 (some .int) ∈ pm_gw := pm_gw_of 359 (by decide +kernel) rfl
abbrev mX4_dropRule : pm_M := (yX4_dropRule, cX4_dropRule, 1, none)
theorem co_X4_dropRule : Cond.code yX4_dropRule cX4_dropRule 1 none ∈ pm_gw := pm_gw_of 363 (by decide +kernel) rfl
abbrev mX6_copy : pm_M := (yX6_copy, cX6_copy, 5, (some .int))
theorem co_X6_copy : Cond.code yX6_copy cX6_copy 5 (some .int) ∈ pm_gw := pm_gw_of 367 (by decide +kernel) rfl
abbrev mX4_takeRule : pm_M := (yX4_takeRule, cX4_takeRule, 2, none)
theorem co_X4_takeRule : Cond.code yX4_takeRule cX4_takeRule 2 none ∈ pm_gw := pm_gw_of 371 (by decide +kernel) rfl
abbrev mX4_copyRule : pm_M := (yX4_copyRule, cX4_copyRule, 2, none)
theorem co_X4_copyRule : Cond.code yX4_copyRule cX4_copyRule 2 none ∈ pm_gw := pm_gw_of 375 (by decide +kernel) rfl
abbrev mX6_step : pm_M := (yX6_step, cX6_step, 4, (some .int))
theorem co_X6_step : Cond.code yX6_step cX6_step 4 (some .int) ∈ pm_gw := pm_gw_of 382 (by decide +kernel) rfl
abbrev mX4_signAt : pm_M := (yX4_signAt, cX4_signAt, 2, (some .int))
theorem co_X4_signAt : Cond.code yX4_signAt cX4_signAt 2 (some .int) ∈ pm_gw := pm_gw_of 386 (by decide +kernel) rfl
abbrev mX4_figuresAt : pm_M := (yX4_figuresAt, cX4_figuresAt, 2, (some .int))
theorem co_X4_figuresAt : Cond.code yX4_figuresAt cX4_figuresAt 2 (some .int) ∈ pm_gw := pm_gw_of 390 (by decide +kernel) rfl
abbrev mX6_build : pm_M := (yX6_build, cX6_build, 2, (some .int))
theorem co_X6_build : Cond.code yX6_build cX6_build 2 (some .int) ∈ pm_gw := pm_gw_of 394 (by decide +kernel) rfl
abbrev mX0_startsFor : pm_M := (yX0_startsFor, cX0_startsFor, 3, (some .int))
theorem co_X0_startsFor : Cond.code yX0_startsFor cX0_startsFor 3 (some .int) ∈ pm_gw := pm_gw_of 399 (by decide +kernel) rfl
abbrev mX0_bitOf : pm_M := (yX0_bitOf, cX0_bitOf, 1, (some .int))
theorem co_X0_bitOf : Cond.code yX0_bitOf cX0_bitOf 1 (some .int) ∈ pm_gw := pm_gw_of 402 (by decide +kernel) rfl
abbrev mX0_buildEach : pm_M := (yX0_buildEach, cX0_buildEach, 4, (some .int))
theorem co_X0_buildEach : Cond.code yX0_buildEach cX0_buildEach 4 (some .int) ∈ pm_gw := pm_gw_of 407 (by decide +kernel) rfl
abbrev mX0_forgetBuild : pm_M := (yX0_forgetBuild, cX0_forgetBuild, 1, none)
theorem co_X0_forgetBuild : Cond.code yX0_forgetBuild cX0_forgetBuild 1 none ∈ pm_gw := pm_gw_of 411 (by decide +kernel) rfl
abbrev mX0_isIn : pm_M := (yX0_isIn, cX0_isIn, 2, (some .boolean))
theorem co_X0_isIn : Cond.code yX0_isIn cX0_isIn 2 (some .boolean) ∈ pm_gw := pm_gw_of 414 (by decide +kernel) rfl
abbrev mX0_buildTarget : pm_M := (yX0_buildTarget, cX0_buildTarget, 4, none)
theorem co_X0_buildTarget : Cond.code yX0_buildTarget cX0_buildTarget 4 none ∈ pm_gw := pm_gw_of 418 (by decide +kernel) rfl
abbrev mX5_emptyOf : pm_M := (yX5_emptyOf, cX5_emptyOf, 2, (some (.object "BuildEngine$Result")))
theorem co_X5_emptyOf : Cond.code yX5_emptyOf cX5_emptyOf 2 (some (.object "BuildEngine$Result")) ∈ pm_gw := pm_gw_of 423 (by decide +kernel) rfl
abbrev mX0_isStillSame : pm_M := (yX0_isStillSame, cX0_isStillSame, 5, (some .boolean))
theorem co_X0_isStillSame : Cond.code yX0_isStillSame cX0_isStillSame 5 (some .boolean) ∈ pm_gw := pm_gw_of 428 (by decide +kernel) rfl
abbrev mX4_hasTrace : pm_M := (yX4_hasTrace, cX4_hasTrace, 1, (some .boolean))
theorem co_X4_hasTrace : Cond.code yX4_hasTrace cX4_hasTrace 1 (some .boolean) ∈ pm_gw := pm_gw_of 432 (by decide +kernel) rfl
abbrev mX4_tracedKey : pm_M := (yX4_tracedKey, cX4_tracedKey, 2, (some .int))
theorem co_X4_tracedKey : Cond.code yX4_tracedKey cX4_tracedKey 2 (some .int) ∈ pm_gw := pm_gw_of 436 (by decide +kernel) rfl
abbrev mX5_resultOf : pm_M := (yX5_resultOf, cX5_resultOf, 4, (some (.object "BuildEngine$Result")))
theorem co_X5_resultOf : Cond.code yX5_resultOf cX5_resultOf 4 (some (.object "BuildEngine$Result")) ∈ pm_gw := pm_gw_of 440 (by decide +kernel) rfl
abbrev mX4_tracedResult : pm_M := (yX4_tracedResult, cX4_tracedResult, 2, (some (.object "BuildEngine$Result")))
theorem co_X4_tracedResult : Cond.code yX4_tracedResult cX4_tracedResult 2 (some (.object "BuildEngine$Result")) ∈ pm_gw := pm_gw_of 446 (by decide +kernel) rfl
abbrev mX1_areSame : pm_M := (yX1_areSame, cX1_areSame, 4, (some .boolean))
theorem co_X1_areSame : Cond.code yX1_areSame cX1_areSame 4 (some .boolean) ∈ pm_gw := pm_gw_of 449 (by decide +kernel) rfl
abbrev mX0_runToEnd : pm_M := (yX0_runToEnd, cX0_runToEnd, 6, none)
theorem co_X0_runToEnd : Cond.code yX0_runToEnd cX0_runToEnd 6 none ∈ pm_gw := pm_gw_of 453 (by decide +kernel) rfl
abbrev mX0_runOnce : pm_M := (yX0_runOnce, cX0_runOnce, 14, (some (.object "BuildEngine$Result")))
theorem co_X0_runOnce : Cond.code yX0_runOnce cX0_runOnce 14 (some (.object "BuildEngine$Result")) ∈ pm_gw := pm_gw_of 457 (by decide +kernel) rfl
abbrev mX4_startTrace : pm_M := (yX4_startTrace, cX4_startTrace, 1, none)
theorem co_X4_startTrace : Cond.code yX4_startTrace cX4_startTrace 1 none ∈ pm_gw := pm_gw_of 461 (by decide +kernel) rfl
abbrev mX0_resultIfDone : pm_M := (yX0_resultIfDone, cX0_resultIfDone, 2, (some (.object "BuildEngine$Result")))
theorem co_X0_resultIfDone : Cond.code yX0_resultIfDone cX0_resultIfDone 2 (some (.object "BuildEngine$Result")) ∈ pm_gw := pm_gw_of 469 (by decide +kernel) rfl
abbrev mX4_noteInTrace : pm_M := (yX4_noteInTrace, cX4_noteInTrace, 3, none)
theorem co_X4_noteInTrace : Cond.code yX4_noteInTrace cX4_noteInTrace 3 none ∈ pm_gw := pm_gw_of 473 (by decide +kernel) rfl
abbrev mX4_traces : pm_M := (yX4_traces, cX4_traces, 3, (some .boolean))
theorem co_X4_traces : Cond.code yX4_traces cX4_traces 3 (some .boolean) ∈ pm_gw := pm_gw_of 477 (by decide +kernel) rfl
abbrev mX1_isFailure : pm_M := (yX1_isFailure, cX1_isFailure, 1, (some .boolean))
theorem co_X1_isFailure : Cond.code yX1_isFailure cX1_isFailure 1 (some .boolean) ∈ pm_gw := pm_gw_of 482 (by decide +kernel) rfl
abbrev mX0_worked : pm_M := (yX0_worked, cX0_worked, 5, (some .long))
theorem co_X0_worked : Cond.code yX0_worked cX0_worked 5 (some .long) ∈ pm_gw := pm_gw_of 485 (by decide +kernel) rfl
abbrev mX0_failingSort : pm_M := (yX0_failingSort, cX0_failingSort, 7, (some .int))
theorem co_X0_failingSort : Cond.code yX0_failingSort cX0_failingSort 7 (some .int) ∈ pm_gw := pm_gw_of 488 (by decide +kernel) rfl
abbrev mX0_stepsToPass : pm_M := (yX0_stepsToPass, cX0_stepsToPass, 4, (some .int))
theorem co_X0_stepsToPass : Cond.code yX0_stepsToPass cX0_stepsToPass 4 (some .int) ∈ pm_gw := pm_gw_of 492 (by decide +kernel) rfl
abbrev mX1_isOrComesOfSort : pm_M := (yX1_isOrComesOfSort, cX1_isOrComesOfSort, 3, (some .boolean))
theorem co_X1_isOrComesOfSort : Cond.code yX1_isOrComesOfSort cX1_isOrComesOfSort 3 (some .boolean) ∈ pm_gw := pm_gw_of 497 (by decide +kernel) rfl
abbrev mX0_noteDone : pm_M := (yX0_noteDone, cX0_noteDone, 2, none)
theorem co_X0_noteDone : Cond.code yX0_noteDone cX0_noteDone 2 none ∈ pm_gw := pm_gw_of 502 (by decide +kernel) rfl
abbrev mX5_failureOf : pm_M := (yX5_failureOf, cX5_failureOf, 3, (some (.object "BuildEngine$Result")))
theorem co_X5_failureOf : Cond.code yX5_failureOf cX5_failureOf 3 (some (.object "BuildEngine$Result")) ∈ pm_gw := pm_gw_of 506 (by decide +kernel) rfl
abbrev mX6_all : pm_M := (yX6_all, cX6_all, 2, (some .int))
theorem co_X6_all : Cond.code yX6_all cX6_all 2 (some .int) ∈ pm_gw := pm_gw_of 512 (by decide +kernel) rfl
abbrev mX6_isStops : pm_M := (yX6_isStops, cX6_isStops, 1, (some .boolean))
theorem co_X6_isStops : Cond.code yX6_isStops cX6_isStops 1 (some .boolean) ∈ pm_gw := pm_gw_of 515 (by decide +kernel) rfl
abbrev mX6_some : pm_M := (yX6_some, cX6_some, 3, (some .int))
theorem co_X6_some : Cond.code yX6_some cX6_some 3 (some .int) ∈ pm_gw := pm_gw_of 521 (by decide +kernel) rfl
abbrev mX6_tried : pm_M := (yX6_tried, cX6_tried, 4, (some .int))
theorem co_X6_tried : Cond.code yX6_tried cX6_tried 4 (some .int) ∈ pm_gw := pm_gw_of 525 (by decide +kernel) rfl
abbrev mX5_copyFrom : pm_M := (yX5_copyFrom, cX5_copyFrom, 5, none)
theorem co_X5_copyFrom : Cond.code yX5_copyFrom cX5_copyFrom 5 none ∈ pm_gw := pm_gw_of 529 (by decide +kernel) rfl
abbrev mX4_copyFrom : pm_M := (yX4_copyFrom, cX4_copyFrom, 3, none)
theorem co_X4_copyFrom : Cond.code yX4_copyFrom cX4_copyFrom 3 none ∈ pm_gw := pm_gw_of 533 (by decide +kernel) rfl
abbrev mX6_result : pm_M := (yX6_result, cX6_result, 2, (some .int))
theorem co_X6_result : Cond.code yX6_result cX6_result 2 (some .int) ∈ pm_gw := pm_gw_of 537 (by decide +kernel) rfl
abbrev mX5_toldResult : pm_M := (yX5_toldResult, cX5_toldResult, 3, (some .int))
theorem co_X5_toldResult : Cond.code yX5_toldResult cX5_toldResult 3 (some .int) ∈ pm_gw := pm_gw_of 542 (by decide +kernel) rfl
abbrev mX1_asTold : pm_M := (yX1_asTold, cX1_asTold, 1, (some .int))
theorem co_X1_asTold : Cond.code yX1_asTold cX1_asTold 1 (some .int) ∈ pm_gw := pm_gw_of 547 (by decide +kernel) rfl
abbrev mX6_failure : pm_M := (yX6_failure, cX6_failure, 6, (some .int))
theorem co_X6_failure : Cond.code yX6_failure cX6_failure 6 (some .int) ∈ pm_gw := pm_gw_of 553 (by decide +kernel) rfl
abbrev mX6_causes : pm_M := (yX6_causes, cX6_causes, 3, (some .int))
theorem co_X6_causes : Cond.code yX6_causes cX6_causes 3 (some .int) ∈ pm_gw := pm_gw_of 558 (by decide +kernel) rfl
abbrev mX1_causeCount : pm_M := (yX1_causeCount, cX1_causeCount, 3, (some .int))
theorem co_X1_causeCount : Cond.code yX1_causeCount cX1_causeCount 3 (some .int) ∈ pm_gw := pm_gw_of 562 (by decide +kernel) rfl
abbrev mX6_root : pm_M := (yX6_root, cX6_root, 3, (some .int))
theorem co_X6_root : Cond.code yX6_root cX6_root 3 (some .int) ∈ pm_gw := pm_gw_of 566 (by decide +kernel) rfl
abbrev mX1_rootKey : pm_M := (yX1_rootKey, cX1_rootKey, 3, (some .int))
theorem co_X1_rootKey : Cond.code yX1_rootKey cX1_rootKey 3 (some .int) ∈ pm_gw := pm_gw_of 570 (by decide +kernel) rfl
abbrev mX6_blamed : pm_M := (yX6_blamed, cX6_blamed, 2, (some .int))
theorem co_X6_blamed : Cond.code yX6_blamed cX6_blamed 2 (some .int) ∈ pm_gw := pm_gw_of 574 (by decide +kernel) rfl
abbrev mX5_targetsFailingBy : pm_M := (yX5_targetsFailingBy, cX5_targetsFailingBy, 5, (some .int))
theorem co_X5_targetsFailingBy : Cond.code yX5_targetsFailingBy cX5_targetsFailingBy 5 (some .int) ∈ pm_gw := pm_gw_of 578 (by decide +kernel) rfl
abbrev mX1_isOrComesOfKey : pm_M := (yX1_isOrComesOfKey, cX1_isOrComesOfKey, 3, (some .boolean))
theorem co_X1_isOrComesOfKey : Cond.code yX1_isOrComesOfKey cX1_isOrComesOfKey 3 (some .boolean) ∈ pm_gw := pm_gw_of 583 (by decide +kernel) rfl
abbrev mX6_trace : pm_M := (yX6_trace, cX6_trace, 4, (some .int))
theorem co_X6_trace : Cond.code yX6_trace cX6_trace 4 (some .int) ∈ pm_gw := pm_gw_of 587 (by decide +kernel) rfl
abbrev mX6_seen : pm_M := (yX6_seen, cX6_seen, 5, (some .int))
theorem co_X6_seen : Cond.code yX6_seen cX6_seen 5 (some .int) ∈ pm_gw := pm_gw_of 593 (by decide +kernel) rfl
abbrev mX6_users : pm_M := (yX6_users, cX6_users, 2, (some .int))
theorem co_X6_users : Cond.code yX6_users cX6_users 2 (some .int) ∈ pm_gw := pm_gw_of 599 (by decide +kernel) rfl
abbrev mX5_targetsTracing : pm_M := (yX5_targetsTracing, cX5_targetsTracing, 5, (some .int))
theorem co_X5_targetsTracing : Cond.code yX5_targetsTracing cX5_targetsTracing 5 (some .int) ∈ pm_gw := pm_gw_of 603 (by decide +kernel) rfl
abbrev mX6_depth : pm_M := (yX6_depth, cX6_depth, 2, (some .int))
theorem co_X6_depth : Cond.code yX6_depth cX6_depth 2 (some .int) ∈ pm_gw := pm_gw_of 608 (by decide +kernel) rfl
abbrev mX5_depthOf : pm_M := (yX5_depthOf, cX5_depthOf, 4, (some .int))
theorem co_X5_depthOf : Cond.code yX5_depthOf cX5_depthOf 4 (some .int) ∈ pm_gw := pm_gw_of 612 (by decide +kernel) rfl
abbrev mJ7_fill_53178 : pm_M := (yJ7_fill_53178, cJ7_fill_53178, 4, none)
theorem co_J7_fill_53178 : Cond.code yJ7_fill_53178 cJ7_fill_53178 4 none ∈ pm_gw := pm_gw_of 615 (by decide +kernel) rfl
abbrev mX5_deepenAll : pm_M := (yX5_deepenAll, cX5_deepenAll, 4, (some .boolean))
theorem co_X5_deepenAll : Cond.code yX5_deepenAll cX5_deepenAll 4 (some .boolean) ∈ pm_gw := pm_gw_of 619 (by decide +kernel) rfl
abbrev mX5_depthByTrace : pm_M := (yX5_depthByTrace, cX5_depthByTrace, 5, (some .int))
theorem co_X5_depthByTrace : Cond.code yX5_depthByTrace cX5_depthByTrace 5 (some .int) ∈ pm_gw := pm_gw_of 623 (by decide +kernel) rfl
abbrev mJ9_max_7cf53 : pm_M := (yJ9_max_7cf53, cJ9_max_7cf53, 2, (some .int))
theorem co_J9_max_7cf53 : Cond.code yJ9_max_7cf53 cJ9_max_7cf53 2 (some .int) ∈ pm_gw := pm_gw_of 627 (by decide +kernel) rfl
abbrev mX6_order : pm_M := (yX6_order, cX6_order, 2, (some .int))
theorem co_X6_order : Cond.code yX6_order cX6_order 2 (some .int) ∈ pm_gw := pm_gw_of 631 (by decide +kernel) rfl
abbrev mX0_doneAt : pm_M := (yX0_doneAt, cX0_doneAt, 2, (some .int))
theorem co_X0_doneAt : Cond.code yX0_doneAt cX0_doneAt 2 (some .int) ∈ pm_gw := pm_gw_of 635 (by decide +kernel) rfl
abbrev mX6_unlike : pm_M := (yX6_unlike, cX6_unlike, 1, (some .int))
theorem co_X6_unlike : Cond.code yX6_unlike cX6_unlike 1 (some .int) ∈ pm_gw := pm_gw_of 639 (by decide +kernel) rfl
abbrev mX5_unlikeResults : pm_M := (yX5_unlikeResults, cX5_unlikeResults, 3, (some .int))
theorem co_X5_unlikeResults : Cond.code yX5_unlikeResults cX5_unlikeResults 3 (some .int) ∈ pm_gw := pm_gw_of 643 (by decide +kernel) rfl
abbrev mX5_hasSameBelow : pm_M := (yX5_hasSameBelow, cX5_hasSameBelow, 3, (some .boolean))
theorem co_X5_hasSameBelow : Cond.code yX5_hasSameBelow cX5_hasSameBelow 3 (some .boolean) ∈ pm_gw := pm_gw_of 647 (by decide +kernel) rfl
abbrev mX6_fresh : pm_M := (yX6_fresh, cX6_fresh, 1, (some .int))
theorem co_X6_fresh : Cond.code yX6_fresh cX6_fresh 1 (some .int) ∈ pm_gw := pm_gw_of 652 (by decide +kernel) rfl
abbrev mX5_targetsUpToDate : pm_M := (yX5_targetsUpToDate, cX5_targetsUpToDate, 3, (some .int))
theorem co_X5_targetsUpToDate : Cond.code yX5_targetsUpToDate cX5_targetsUpToDate 3 (some .int) ∈ pm_gw := pm_gw_of 656 (by decide +kernel) rfl
abbrev mX5_isUpToDate : pm_M := (yX5_isUpToDate, cX5_isUpToDate, 3, (some .boolean))
theorem co_X5_isUpToDate : Cond.code yX5_isUpToDate cX5_isUpToDate 3 (some .boolean) ∈ pm_gw := pm_gw_of 660 (by decide +kernel) rfl
abbrev mX6_forget : pm_M := (yX6_forget, cX6_forget, 4, (some .int))
theorem co_X6_forget : Cond.code yX6_forget cX6_forget 4 (some .int) ∈ pm_gw := pm_gw_of 666 (by decide +kernel) rfl
abbrev mX6_told : pm_M := (yX6_told, cX6_told, 2, (some .int))
theorem co_X6_told : Cond.code yX6_told cX6_told 2 (some .int) ∈ pm_gw := pm_gw_of 671 (by decide +kernel) rfl
abbrev mX5_ruleCount : pm_M := (yX5_ruleCount, cX5_ruleCount, 4, (some .int))
theorem co_X5_ruleCount : Cond.code yX5_ruleCount cX5_ruleCount 4 (some .int) ∈ pm_gw := pm_gw_of 675 (by decide +kernel) rfl
abbrev mX5_resultCount : pm_M := (yX5_resultCount, cX5_resultCount, 3, (some .int))
theorem co_X5_resultCount : Cond.code yX5_resultCount cX5_resultCount 3 (some .int) ∈ pm_gw := pm_gw_of 679 (by decide +kernel) rfl
abbrev mX5_failureCount : pm_M := (yX5_failureCount, cX5_failureCount, 3, (some .int))
theorem co_X5_failureCount : Cond.code yX5_failureCount cX5_failureCount 3 (some .int) ∈ pm_gw := pm_gw_of 683 (by decide +kernel) rfl
abbrev mX5_traceCount : pm_M := (yX5_traceCount, cX5_traceCount, 4, (some .int))
theorem co_X5_traceCount : Cond.code yX5_traceCount cX5_traceCount 4 (some .int) ∈ pm_gw := pm_gw_of 687 (by decide +kernel) rfl
abbrev mX6_list : pm_M := (yX6_list, cX6_list, 4, (some .int))
theorem co_X6_list : Cond.code yX6_list cX6_list 4 (some .int) ∈ pm_gw := pm_gw_of 691 (by decide +kernel) rfl
abbrev mX6_rowOf : pm_M := (yX6_rowOf, cX6_rowOf, 2, (some (.object "BuildEngine$Row")))
theorem co_X6_rowOf : Cond.code yX6_rowOf cX6_rowOf 2 (some (.object "BuildEngine$Row")) ∈ pm_gw := pm_gw_of 695 (by decide +kernel) rfl
abbrev mX2_hold : pm_M := (yX2_hold, cX2_hold, 2, none)
theorem co_X2_hold : Cond.code yX2_hold cX2_hold 2 none ∈ pm_gw := pm_gw_of 699 (by decide +kernel) rfl
abbrev mJ7_fill_d0a16 : pm_M := (yJ7_fill_d0a16, cJ7_fill_d0a16, 5, none)
theorem co_J7_fill_d0a16 : Cond.code yJ7_fill_d0a16 cJ7_fill_d0a16 5 none ∈ pm_gw := pm_gw_of 704 (by decide +kernel) rfl
abbrev mX6_put : pm_M := (yX6_put, cX6_put, 6, (some .int))
theorem co_X6_put : Cond.code yX6_put cX6_put 6 (some .int) ∈ pm_gw := pm_gw_of 708 (by decide +kernel) rfl
abbrev mX2_write : pm_M := (yX2_write, cX2_write, 4, (some .boolean))
theorem co_X2_write : Cond.code yX2_write cX2_write 4 (some .boolean) ∈ pm_gw := pm_gw_of 712 (by decide +kernel) rfl
abbrev mX2_hasPlace : pm_M := (yX2_hasPlace, cX2_hasPlace, 2, (some .boolean))
theorem co_X2_hasPlace : Cond.code yX2_hasPlace cX2_hasPlace 2 (some .boolean) ∈ pm_gw := pm_gw_of 716 (by decide +kernel) rfl
abbrev mX6_get : pm_M := (yX6_get, cX6_get, 4, (some .long))
theorem co_X6_get : Cond.code yX6_get cX6_get 4 (some .long) ∈ pm_gw := pm_gw_of 720 (by decide +kernel) rfl
abbrev mX2_read : pm_M := (yX2_read, cX2_read, 2, (some .long))
theorem co_X2_read : Cond.code yX2_read cX2_read 2 (some .long) ∈ pm_gw := pm_gw_of 725 (by decide +kernel) rfl
abbrev mX6_move : pm_M := (yX6_move, cX6_move, 8, (some .int))
theorem co_X6_move : Cond.code yX6_move cX6_move 8 (some .int) ∈ pm_gw := pm_gw_of 730 (by decide +kernel) rfl
abbrev mX2_hasSpan : pm_M := (yX2_hasSpan, cX2_hasSpan, 3, (some .boolean))
theorem co_X2_hasSpan : Cond.code yX2_hasSpan cX2_hasSpan 3 (some .boolean) ∈ pm_gw := pm_gw_of 734 (by decide +kernel) rfl
abbrev mX6_lay : pm_M := (yX6_lay, cX6_lay, 5, (some .int))
theorem co_X6_lay : Cond.code yX6_lay cX6_lay 5 (some .int) ∈ pm_gw := pm_gw_of 739 (by decide +kernel) rfl
abbrev mX6_judge : pm_M := (yX6_judge, cX6_judge, 5, (some .int))
theorem co_X6_judge : Cond.code yX6_judge cX6_judge 5 (some .int) ∈ pm_gw := pm_gw_of 743 (by decide +kernel) rfl
abbrev mX6_image : pm_M := (yX6_image, cX6_image, 1, (some .int))
theorem co_X6_image : Cond.code yX6_image cX6_image 1 (some .int) ∈ pm_gw := pm_gw_of 748 (by decide +kernel) rfl
abbrev mX6_undo : pm_M := (yX6_undo, cX6_undo, 1, (some .int))
theorem co_X6_undo : Cond.code yX6_undo cX6_undo 1 (some .int) ∈ pm_gw := pm_gw_of 752 (by decide +kernel) rfl
abbrev mX7_init : pm_M := (yX7_init, cX7_init, 2, none)
theorem co_X7_init : Cond.code yX7_init cX7_init 2 none ∈ pm_gw := pm_gw_of 758 (by decide +kernel) rfl
abbrev mX7_give : pm_M := (yX7_give, cX7_give, 4, (some .int))
theorem co_X7_give : Cond.code yX7_give cX7_give 4 (some .int) ∈ pm_gw := pm_gw_of 852 (by decide +kernel) rfl
abbrev mX7_isInput : pm_M := (yX7_isInput, cX7_isInput, 1, (some .boolean))
theorem co_X7_isInput : Cond.code yX7_isInput cX7_isInput 1 (some .boolean) ∈ pm_gw := pm_gw_of 855 (by decide +kernel) rfl
abbrev mX7_isIn : pm_M := (yX7_isIn, cX7_isIn, 6, (some .boolean))
theorem co_X7_isIn : Cond.code yX7_isIn cX7_isIn 6 (some .boolean) ∈ pm_gw := pm_gw_of 859 (by decide +kernel) rfl
abbrev mX7_numberResult : pm_M := (yX7_numberResult, cX7_numberResult, 1, (some .int))
theorem co_X7_numberResult : Cond.code yX7_numberResult cX7_numberResult 1 (some .int) ∈ pm_gw := pm_gw_of 864 (by decide +kernel) rfl
abbrev mX7_take : pm_M := (yX7_take, cX7_take, 3, (some .int))
theorem co_X7_take : Cond.code yX7_take cX7_take 3 (some .int) ∈ pm_gw := pm_gw_of 869 (by decide +kernel) rfl
abbrev mX7_numberOf : pm_M := (yX7_numberOf, cX7_numberOf, 1, (some .int))
theorem co_X7_numberOf : Cond.code yX7_numberOf cX7_numberOf 1 (some .int) ∈ pm_gw := pm_gw_of 872 (by decide +kernel) rfl
abbrev mX7_feed : pm_M := (yX7_feed, cX7_feed, 2, (some .int))
theorem co_X7_feed : Cond.code yX7_feed cX7_feed 2 (some .int) ∈ pm_gw := pm_gw_of 876 (by decide +kernel) rfl
abbrev mX7_clear : pm_M := (yX7_clear, cX7_clear, 2, (some .int))
theorem co_X7_clear : Cond.code yX7_clear cX7_clear 2 (some .int) ∈ pm_gw := pm_gw_of 881 (by decide +kernel) rfl
abbrev mX7_rule : pm_M := (yX7_rule, cX7_rule, 6, (some .int))
theorem co_X7_rule : Cond.code yX7_rule cX7_rule 6 (some .int) ∈ pm_gw := pm_gw_of 885 (by decide +kernel) rfl
abbrev mX7_isTarget : pm_M := (yX7_isTarget, cX7_isTarget, 1, (some .boolean))
theorem co_X7_isTarget : Cond.code yX7_isTarget cX7_isTarget 1 (some .boolean) ∈ pm_gw := pm_gw_of 888 (by decide +kernel) rfl
abbrev mX7_fault : pm_M := (yX7_fault, cX7_fault, 4, (some .int))
theorem co_X7_fault : Cond.code yX7_fault cX7_fault 4 (some .int) ∈ pm_gw := pm_gw_of 894 (by decide +kernel) rfl
abbrev mX7_isSign : pm_M := (yX7_isSign, cX7_isSign, 1, (some .boolean))
theorem co_X7_isSign : Cond.code yX7_isSign cX7_isSign 1 (some .boolean) ∈ pm_gw := pm_gw_of 897 (by decide +kernel) rfl
abbrev mX7_isAsking : pm_M := (yX7_isAsking, cX7_isAsking, 1, (some .boolean))
theorem co_X7_isAsking : Cond.code yX7_isAsking cX7_isAsking 1 (some .boolean) ∈ pm_gw := pm_gw_of 900 (by decide +kernel) rfl
abbrev mX7_isFigure : pm_M := (yX7_isFigure, cX7_isFigure, 2, (some .boolean))
theorem co_X7_isFigure : Cond.code yX7_isFigure cX7_isFigure 2 (some .boolean) ∈ pm_gw := pm_gw_of 904 (by decide +kernel) rfl
abbrev mX7_traceAt : pm_M := (yX7_traceAt, cX7_traceAt, 2, (some .int))
theorem co_X7_traceAt : Cond.code yX7_traceAt cX7_traceAt 2 (some .int) ∈ pm_gw := pm_gw_of 910 (by decide +kernel) rfl
abbrev mX7_drop : pm_M := (yX7_drop, cX7_drop, 3, (some .int))
theorem co_X7_drop : Cond.code yX7_drop cX7_drop 3 (some .int) ∈ pm_gw := pm_gw_of 914 (by decide +kernel) rfl
abbrev mX7_ruled : pm_M := (yX7_ruled, cX7_ruled, 3, (some .int))
theorem co_X7_ruled : Cond.code yX7_ruled cX7_ruled 3 (some .int) ∈ pm_gw := pm_gw_of 918 (by decide +kernel) rfl
abbrev mX7_copy : pm_M := (yX7_copy, cX7_copy, 4, (some .int))
theorem co_X7_copy : Cond.code yX7_copy cX7_copy 4 (some .int) ∈ pm_gw := pm_gw_of 922 (by decide +kernel) rfl
abbrev mX7_step : pm_M := (yX7_step, cX7_step, 4, (some .int))
theorem co_X7_step : Cond.code yX7_step cX7_step 4 (some .int) ∈ pm_gw := pm_gw_of 926 (by decide +kernel) rfl
abbrev mX7_build : pm_M := (yX7_build, cX7_build, 3, (some .int))
theorem co_X7_build : Cond.code yX7_build cX7_build 3 (some .int) ∈ pm_gw := pm_gw_of 930 (by decide +kernel) rfl
abbrev mX7_built : pm_M := (yX7_built, cX7_built, 5, (some .int))
theorem co_X7_built : Cond.code yX7_built cX7_built 5 (some .int) ∈ pm_gw := pm_gw_of 934 (by decide +kernel) rfl
abbrev mX7_builds : pm_M := (yX7_builds, cX7_builds, 4, none)
theorem co_X7_builds : Cond.code yX7_builds cX7_builds 4 none ∈ pm_gw := pm_gw_of 938 (by decide +kernel) rfl
abbrev mX7_fails : pm_M := (yX7_fails, cX7_fails, 6, (some .int))
theorem co_X7_fails : Cond.code yX7_fails cX7_fails 6 (some .int) ∈ pm_gw := pm_gw_of 942 (by decide +kernel) rfl
abbrev mX7_traced : pm_M := (yX7_traced, cX7_traced, 2, (some .int))
theorem co_X7_traced : Cond.code yX7_traced cX7_traced 2 (some .int) ∈ pm_gw := pm_gw_of 946 (by decide +kernel) rfl
abbrev mX7_isAsSeen : pm_M := (yX7_isAsSeen, cX7_isAsSeen, 6, (some .boolean))
theorem co_X7_isAsSeen : Cond.code yX7_isAsSeen cX7_isAsSeen 6 (some .boolean) ∈ pm_gw := pm_gw_of 950 (by decide +kernel) rfl
abbrev mX7_isDone : pm_M := (yX7_isDone, cX7_isDone, 2, (some .boolean))
theorem co_X7_isDone : Cond.code yX7_isDone cX7_isDone 2 (some .boolean) ∈ pm_gw := pm_gw_of 954 (by decide +kernel) rfl
abbrev mX7_has : pm_M := (yX7_has, cX7_has, 2, (some .int))
theorem co_X7_has : Cond.code yX7_has cX7_has 2 (some .int) ∈ pm_gw := pm_gw_of 958 (by decide +kernel) rfl
abbrev mX7_runs : pm_M := (yX7_runs, cX7_runs, 6, (some .int))
theorem co_X7_runs : Cond.code yX7_runs cX7_runs 6 (some .int) ∈ pm_gw := pm_gw_of 962 (by decide +kernel) rfl
abbrev mX7_goes : pm_M := (yX7_goes, cX7_goes, 11, (some .int))
theorem co_X7_goes : Cond.code yX7_goes cX7_goes 11 (some .int) ∈ pm_gw := pm_gw_of 966 (by decide +kernel) rfl
abbrev mX7_notes : pm_M := (yX7_notes, cX7_notes, 5, none)
theorem co_X7_notes : Cond.code yX7_notes cX7_notes 5 none ∈ pm_gw := pm_gw_of 970 (by decide +kernel) rfl
abbrev mX7_isFailure : pm_M := (yX7_isFailure, cX7_isFailure, 1, (some .boolean))
theorem co_X7_isFailure : Cond.code yX7_isFailure cX7_isFailure 1 (some .boolean) ∈ pm_gw := pm_gw_of 973 (by decide +kernel) rfl
abbrev mX7_isOfRing : pm_M := (yX7_isOfRing, cX7_isOfRing, 4, (some .boolean))
theorem co_X7_isOfRing : Cond.code yX7_isOfRing cX7_isOfRing 4 (some .boolean) ∈ pm_gw := pm_gw_of 977 (by decide +kernel) rfl
abbrev mX7_finishes : pm_M := (yX7_finishes, cX7_finishes, 2, none)
theorem co_X7_finishes : Cond.code yX7_finishes cX7_finishes 2 none ∈ pm_gw := pm_gw_of 981 (by decide +kernel) rfl
abbrev mX7_manyDone : pm_M := (yX7_manyDone, cX7_manyDone, 3, (some .int))
theorem co_X7_manyDone : Cond.code yX7_manyDone cX7_manyDone 3 (some .int) ∈ pm_gw := pm_gw_of 985 (by decide +kernel) rfl
abbrev mX7_all : pm_M := (yX7_all, cX7_all, 2, (some .int))
theorem co_X7_all : Cond.code yX7_all cX7_all 2 (some .int) ∈ pm_gw := pm_gw_of 989 (by decide +kernel) rfl
abbrev mX7_some : pm_M := (yX7_some, cX7_some, 3, (some .int))
theorem co_X7_some : Cond.code yX7_some cX7_some 3 (some .int) ∈ pm_gw := pm_gw_of 994 (by decide +kernel) rfl
abbrev mX7_tried : pm_M := (yX7_tried, cX7_tried, 12, (some .int))
theorem co_X7_tried : Cond.code yX7_tried cX7_tried 12 (some .int) ∈ pm_gw := pm_gw_of 999 (by decide +kernel) rfl
abbrev mX7_pours : pm_M := (yX7_pours, cX7_pours, 3, none)
theorem co_X7_pours : Cond.code yX7_pours cX7_pours 3 none ∈ pm_gw := pm_gw_of 1002 (by decide +kernel) rfl
abbrev mX7_result : pm_M := (yX7_result, cX7_result, 2, (some .int))
theorem co_X7_result : Cond.code yX7_result cX7_result 2 (some .int) ∈ pm_gw := pm_gw_of 1006 (by decide +kernel) rfl
abbrev mX7_isKey : pm_M := (yX7_isKey, cX7_isKey, 1, (some .boolean))
theorem co_X7_isKey : Cond.code yX7_isKey cX7_isKey 1 (some .boolean) ∈ pm_gw := pm_gw_of 1009 (by decide +kernel) rfl
abbrev mX7_toldOf : pm_M := (yX7_toldOf, cX7_toldOf, 2, (some .int))
theorem co_X7_toldOf : Cond.code yX7_toldOf cX7_toldOf 2 (some .int) ∈ pm_gw := pm_gw_of 1013 (by decide +kernel) rfl
abbrev mX7_failure : pm_M := (yX7_failure, cX7_failure, 5, (some .int))
theorem co_X7_failure : Cond.code yX7_failure cX7_failure 5 (some .int) ∈ pm_gw := pm_gw_of 1018 (by decide +kernel) rfl
abbrev mX7_causeOf : pm_M := (yX7_causeOf, cX7_causeOf, 5, (some .int))
theorem co_X7_causeOf : Cond.code yX7_causeOf cX7_causeOf 5 (some .int) ∈ pm_gw := pm_gw_of 1023 (by decide +kernel) rfl
abbrev mX7_causes : pm_M := (yX7_causes, cX7_causes, 4, (some .int))
theorem co_X7_causes : Cond.code yX7_causes cX7_causes 4 (some .int) ∈ pm_gw := pm_gw_of 1027 (by decide +kernel) rfl
abbrev mX7_root : pm_M := (yX7_root, cX7_root, 4, (some .int))
theorem co_X7_root : Cond.code yX7_root cX7_root 4 (some .int) ∈ pm_gw := pm_gw_of 1031 (by decide +kernel) rfl
abbrev mX7_blamed : pm_M := (yX7_blamed, cX7_blamed, 5, (some .int))
theorem co_X7_blamed : Cond.code yX7_blamed cX7_blamed 5 (some .int) ∈ pm_gw := pm_gw_of 1035 (by decide +kernel) rfl
abbrev mX7_trace : pm_M := (yX7_trace, cX7_trace, 4, (some .int))
theorem co_X7_trace : Cond.code yX7_trace cX7_trace 4 (some .int) ∈ pm_gw := pm_gw_of 1039 (by decide +kernel) rfl
abbrev mX7_amiss : pm_M := (yX7_amiss, cX7_amiss, 3, (some .int))
theorem co_X7_amiss : Cond.code yX7_amiss cX7_amiss 3 (some .int) ∈ pm_gw := pm_gw_of 1043 (by decide +kernel) rfl
abbrev mX7_seen : pm_M := (yX7_seen, cX7_seen, 4, (some .int))
theorem co_X7_seen : Cond.code yX7_seen cX7_seen 4 (some .int) ∈ pm_gw := pm_gw_of 1047 (by decide +kernel) rfl
abbrev mX7_users : pm_M := (yX7_users, cX7_users, 4, (some .int))
theorem co_X7_users : Cond.code yX7_users cX7_users 4 (some .int) ∈ pm_gw := pm_gw_of 1051 (by decide +kernel) rfl
abbrev mX7_isTraced : pm_M := (yX7_isTraced, cX7_isTraced, 5, (some .boolean))
theorem co_X7_isTraced : Cond.code yX7_isTraced cX7_isTraced 5 (some .boolean) ∈ pm_gw := pm_gw_of 1055 (by decide +kernel) rfl
abbrev mX7_depth : pm_M := (yX7_depth, cX7_depth, 6, (some .int))
theorem co_X7_depth : Cond.code yX7_depth cX7_depth 6 (some .int) ∈ pm_gw := pm_gw_of 1059 (by decide +kernel) rfl
abbrev mX7_order : pm_M := (yX7_order, cX7_order, 2, (some .int))
theorem co_X7_order : Cond.code yX7_order cX7_order 2 (some .int) ∈ pm_gw := pm_gw_of 1064 (by decide +kernel) rfl
abbrev mX7_unlike : pm_M := (yX7_unlike, cX7_unlike, 6, (some .int))
theorem co_X7_unlike : Cond.code yX7_unlike cX7_unlike 6 (some .int) ∈ pm_gw := pm_gw_of 1068 (by decide +kernel) rfl
abbrev mX7_fresh : pm_M := (yX7_fresh, cX7_fresh, 6, (some .int))
theorem co_X7_fresh : Cond.code yX7_fresh cX7_fresh 6 (some .int) ∈ pm_gw := pm_gw_of 1072 (by decide +kernel) rfl
abbrev mX7_forget : pm_M := (yX7_forget, cX7_forget, 3, (some .int))
theorem co_X7_forget : Cond.code yX7_forget cX7_forget 3 (some .int) ∈ pm_gw := pm_gw_of 1076 (by decide +kernel) rfl
abbrev mX7_told : pm_M := (yX7_told, cX7_told, 2, (some .int))
theorem co_X7_told : Cond.code yX7_told cX7_told 2 (some .int) ∈ pm_gw := pm_gw_of 1080 (by decide +kernel) rfl
abbrev mX7_having : pm_M := (yX7_having, cX7_having, 5, (some .int))
theorem co_X7_having : Cond.code yX7_having cX7_having 5 (some .int) ∈ pm_gw := pm_gw_of 1084 (by decide +kernel) rfl
abbrev mX7_list : pm_M := (yX7_list, cX7_list, 4, (some .int))
theorem co_X7_list : Cond.code yX7_list cX7_list 4 (some .int) ∈ pm_gw := pm_gw_of 1088 (by decide +kernel) rfl
abbrev mX7_isList : pm_M := (yX7_isList, cX7_isList, 1, (some .boolean))
theorem co_X7_isList : Cond.code yX7_isList cX7_isList 1 (some .boolean) ∈ pm_gw := pm_gw_of 1091 (by decide +kernel) rfl
abbrev mX7_put : pm_M := (yX7_put, cX7_put, 5, (some .int))
theorem co_X7_put : Cond.code yX7_put cX7_put 5 (some .int) ∈ pm_gw := pm_gw_of 1096 (by decide +kernel) rfl
abbrev mX7_get : pm_M := (yX7_get, cX7_get, 3, (some .long))
theorem co_X7_get : Cond.code yX7_get cX7_get 3 (some .long) ∈ pm_gw := pm_gw_of 1100 (by decide +kernel) rfl
abbrev mX7_move : pm_M := (yX7_move, cX7_move, 7, (some .int))
theorem co_X7_move : Cond.code yX7_move cX7_move 7 (some .int) ∈ pm_gw := pm_gw_of 1105 (by decide +kernel) rfl
abbrev mX7_lay : pm_M := (yX7_lay, cX7_lay, 4, (some .int))
theorem co_X7_lay : Cond.code yX7_lay cX7_lay 4 (some .int) ∈ pm_gw := pm_gw_of 1109 (by decide +kernel) rfl
abbrev mX7_judge : pm_M := (yX7_judge, cX7_judge, 4, (some .int))
theorem co_X7_judge : Cond.code yX7_judge cX7_judge 4 (some .int) ∈ pm_gw := pm_gw_of 1113 (by decide +kernel) rfl
abbrev mX7_image : pm_M := (yX7_image, cX7_image, 1, (some .int))
theorem co_X7_image : Cond.code yX7_image cX7_image 1 (some .int) ∈ pm_gw := pm_gw_of 1117 (by decide +kernel) rfl
abbrev mX7_undo : pm_M := (yX7_undo, cX7_undo, 2, (some .int))
theorem co_X7_undo : Cond.code yX7_undo cX7_undo 2 (some .int) ∈ pm_gw := pm_gw_of 1121 (by decide +kernel) rfl
theorem ini_RL : Cond.initialized RL ∈ pm_gw := pm_gw_of 35 (by decide +kernel) rfl
theorem ini_RX6 : Cond.initialized RX6 ∈ pm_gw := pm_gw_of 36 (by decide +kernel) rfl
theorem ini_RX0 : Cond.initialized RX0 ∈ pm_gw := pm_gw_of 37 (by decide +kernel) rfl
theorem ini_RX5 : Cond.initialized RX5 ∈ pm_gw := pm_gw_of 38 (by decide +kernel) rfl
theorem ini_RX4 : Cond.initialized RX4 ∈ pm_gw := pm_gw_of 39 (by decide +kernel) rfl
theorem ini_RX1 : Cond.initialized RX1 ∈ pm_gw := pm_gw_of 40 (by decide +kernel) rfl
theorem ini_RX3 : Cond.initialized RX3 ∈ pm_gw := pm_gw_of 41 (by decide +kernel) rfl
theorem ini_RX2 : Cond.initialized RX2 ∈ pm_gw := pm_gw_of 42 (by decide +kernel) rfl
theorem ini_RX7 : Cond.initialized RX7 ∈ pm_gw := pm_gw_of 43 (by decide +kernel) rfl
theorem ini_RJ9 : Cond.initialized RJ9 ∈ pm_gw := pm_gw_of 44 (by decide +kernel) rfl
theorem ini_RJ10 : Cond.initialized RJ10 ∈ pm_gw := pm_gw_of 45 (by decide +kernel) rfl
theorem ini_RJ7 : Cond.initialized RJ7 ∈ pm_gw := pm_gw_of 46 (by decide +kernel) rfl
theorem mok_X6_init : pm_mok mX6_init 0 := ⟨co_X6_init, ini_RX6, ⟨by decide +kernel, by decide +kernel⟩, by decide +kernel, by decide⟩
theorem in_X6_init : Cond.instanceMethod yX6_init ∈ pm_gw := pm_gw_of 50 (by decide +kernel) rfl
theorem mok_X0_init : pm_mok mX0_init 0 := ⟨co_X0_init, ini_RX0, ⟨by decide +kernel, by decide +kernel⟩, by decide +kernel, by decide⟩
theorem in_X0_init : Cond.instanceMethod yX0_init ∈ pm_gw := pm_gw_of 58 (by decide +kernel) rfl
theorem mok_X5_init : pm_mok mX5_init 0 := ⟨co_X5_init, ini_RX5, ⟨by decide +kernel, by decide +kernel⟩, by decide +kernel, by decide⟩
theorem in_X5_init : Cond.instanceMethod yX5_init ∈ pm_gw := pm_gw_of 64 (by decide +kernel) rfl
theorem mok_X4_init : pm_mok mX4_init 0 := ⟨co_X4_init, ini_RX4, ⟨by decide +kernel, by decide +kernel⟩, by decide +kernel, by decide⟩
theorem in_X4_init : Cond.instanceMethod yX4_init ∈ pm_gw := pm_gw_of 73 (by decide +kernel) rfl
theorem mok_X1_ofFailure : pm_mok mX1_ofFailure 4 := ⟨co_X1_ofFailure, ini_RX1, ⟨by decide +kernel, by decide +kernel⟩, by decide +kernel, by decide⟩
theorem st_X1_ofFailure : Cond.static yX1_ofFailure ∈ pm_gw := pm_gw_of 110 (by decide +kernel) rfl
theorem mok_X1_init : pm_mok mX1_init 5 := ⟨co_X1_init, ini_RX1, ⟨by decide +kernel, by decide +kernel⟩, by decide +kernel, by decide⟩
theorem in_X1_init : Cond.instanceMethod yX1_init ∈ pm_gw := pm_gw_of 115 (by decide +kernel) rfl
theorem mok_X3_init : pm_mok mX3_init 0 := ⟨co_X3_init, ini_RX3, ⟨by decide +kernel, by decide +kernel⟩, by decide +kernel, by decide⟩
theorem in_X3_init : Cond.instanceMethod yX3_init ∈ pm_gw := pm_gw_of 200 (by decide +kernel) rfl
theorem mok_X2_init : pm_mok mX2_init 0 := ⟨co_X2_init, ini_RX2, ⟨by decide +kernel, by decide +kernel⟩, by decide +kernel, by decide⟩
theorem in_X2_init : Cond.instanceMethod yX2_init ∈ pm_gw := pm_gw_of 216 (by decide +kernel) rfl
theorem mok_X6_give : pm_mok mX6_give 2 := ⟨co_X6_give, ini_RX6, ⟨by decide +kernel, by decide +kernel⟩, by decide +kernel, by decide⟩
theorem in_X6_give : Cond.instanceMethod yX6_give ∈ pm_gw := pm_gw_of 255 (by decide +kernel) rfl
theorem se_X6_give : Cond.selects RX6 yX6_give yX6_give ∈ pm_gw := pm_gw_of 256 (by decide +kernel) rfl
theorem mok_X6_isInput : pm_mok mX6_isInput 1 := ⟨co_X6_isInput, ini_RX6, ⟨by decide +kernel, by decide +kernel⟩, by decide +kernel, by decide⟩
theorem st_X6_isInput : Cond.static yX6_isInput ∈ pm_gw := pm_gw_of 259 (by decide +kernel) rfl
theorem mok_X6_isContent : pm_mok mX6_isContent 1 := ⟨co_X6_isContent, ini_RX6, ⟨by decide +kernel, by decide +kernel⟩, by decide +kernel, by decide⟩
theorem st_X6_isContent : Cond.static yX6_isContent ∈ pm_gw := pm_gw_of 262 (by decide +kernel) rfl
theorem mok_X5_giveContent : pm_mok mX5_giveContent 2 := ⟨co_X5_giveContent, ini_RX5, ⟨by decide +kernel, by decide +kernel⟩, by decide +kernel, by decide⟩
theorem in_X5_giveContent : Cond.instanceMethod yX5_giveContent ∈ pm_gw := pm_gw_of 267 (by decide +kernel) rfl
theorem se_X5_giveContent : Cond.selects RX5 yX5_giveContent yX5_giveContent ∈ pm_gw := pm_gw_of 268 (by decide +kernel) rfl
theorem mok_X5_contentOf : pm_mok mX5_contentOf 1 := ⟨co_X5_contentOf, ini_RX5, ⟨by decide +kernel, by decide +kernel⟩, by decide +kernel, by decide⟩
theorem in_X5_contentOf : Cond.instanceMethod yX5_contentOf ∈ pm_gw := pm_gw_of 271 (by decide +kernel) rfl
theorem se_X5_contentOf : Cond.selects RX5 yX5_contentOf yX5_contentOf ∈ pm_gw := pm_gw_of 272 (by decide +kernel) rfl
theorem mok_X1_ofContent : pm_mok mX1_ofContent 1 := ⟨co_X1_ofContent, ini_RX1, ⟨by decide +kernel, by decide +kernel⟩, by decide +kernel, by decide⟩
theorem st_X1_ofContent : Cond.static yX1_ofContent ∈ pm_gw := pm_gw_of 276 (by decide +kernel) rfl
theorem mok_X6_take : pm_mok mX6_take 1 := ⟨co_X6_take, ini_RX6, ⟨by decide +kernel, by decide +kernel⟩, by decide +kernel, by decide⟩
theorem in_X6_take : Cond.instanceMethod yX6_take ∈ pm_gw := pm_gw_of 279 (by decide +kernel) rfl
theorem se_X6_take : Cond.selects RX6 yX6_take yX6_take ∈ pm_gw := pm_gw_of 280 (by decide +kernel) rfl
theorem mok_X5_takeContent : pm_mok mX5_takeContent 1 := ⟨co_X5_takeContent, ini_RX5, ⟨by decide +kernel, by decide +kernel⟩, by decide +kernel, by decide⟩
theorem in_X5_takeContent : Cond.instanceMethod yX5_takeContent ∈ pm_gw := pm_gw_of 284 (by decide +kernel) rfl
theorem se_X5_takeContent : Cond.selects RX5 yX5_takeContent yX5_takeContent ∈ pm_gw := pm_gw_of 285 (by decide +kernel) rfl
theorem mok_X6_feed : pm_mok mX6_feed 1 := ⟨co_X6_feed, ini_RX6, ⟨by decide +kernel, by decide +kernel⟩, by decide +kernel, by decide⟩
theorem in_X6_feed : Cond.instanceMethod yX6_feed ∈ pm_gw := pm_gw_of 288 (by decide +kernel) rfl
theorem se_X6_feed : Cond.selects RX6 yX6_feed yX6_feed ∈ pm_gw := pm_gw_of 289 (by decide +kernel) rfl
theorem mok_X3_append : pm_mok mX3_append 1 := ⟨co_X3_append, ini_RX3, ⟨by decide +kernel, by decide +kernel⟩, by decide +kernel, by decide⟩
theorem in_X3_append : Cond.instanceMethod yX3_append ∈ pm_gw := pm_gw_of 292 (by decide +kernel) rfl
theorem se_X3_append : Cond.selects RX3 yX3_append yX3_append ∈ pm_gw := pm_gw_of 293 (by decide +kernel) rfl
theorem mok_X6_clear : pm_mok mX6_clear 0 := ⟨co_X6_clear, ini_RX6, ⟨by decide +kernel, by decide +kernel⟩, by decide +kernel, by decide⟩
theorem in_X6_clear : Cond.instanceMethod yX6_clear ∈ pm_gw := pm_gw_of 296 (by decide +kernel) rfl
theorem se_X6_clear : Cond.selects RX6 yX6_clear yX6_clear ∈ pm_gw := pm_gw_of 297 (by decide +kernel) rfl
theorem mok_X3_empty : pm_mok mX3_empty 0 := ⟨co_X3_empty, ini_RX3, ⟨by decide +kernel, by decide +kernel⟩, by decide +kernel, by decide⟩
theorem in_X3_empty : Cond.instanceMethod yX3_empty ∈ pm_gw := pm_gw_of 300 (by decide +kernel) rfl
theorem se_X3_empty : Cond.selects RX3 yX3_empty yX3_empty ∈ pm_gw := pm_gw_of 301 (by decide +kernel) rfl
theorem mok_X6_rule : pm_mok mX6_rule 1 := ⟨co_X6_rule, ini_RX6, ⟨by decide +kernel, by decide +kernel⟩, by decide +kernel, by decide⟩
theorem in_X6_rule : Cond.instanceMethod yX6_rule ∈ pm_gw := pm_gw_of 304 (by decide +kernel) rfl
theorem se_X6_rule : Cond.selects RX6 yX6_rule yX6_rule ∈ pm_gw := pm_gw_of 305 (by decide +kernel) rfl
theorem mok_X5_targetOf : pm_mok mX5_targetOf 1 := ⟨co_X5_targetOf, ini_RX5, ⟨by decide +kernel, by decide +kernel⟩, by decide +kernel, by decide⟩
theorem in_X5_targetOf : Cond.instanceMethod yX5_targetOf ∈ pm_gw := pm_gw_of 308 (by decide +kernel) rfl
theorem se_X5_targetOf : Cond.selects RX5 yX5_targetOf yX5_targetOf ∈ pm_gw := pm_gw_of 309 (by decide +kernel) rfl
theorem mok_X6_isTarget : pm_mok mX6_isTarget 1 := ⟨co_X6_isTarget, ini_RX6, ⟨by decide +kernel, by decide +kernel⟩, by decide +kernel, by decide⟩
theorem st_X6_isTarget : Cond.static yX6_isTarget ∈ pm_gw := pm_gw_of 312 (by decide +kernel) rfl
theorem mok_X3_faultAsRule : pm_mok mX3_faultAsRule 0 := ⟨co_X3_faultAsRule, ini_RX3, ⟨by decide +kernel, by decide +kernel⟩, by decide +kernel, by decide⟩
theorem in_X3_faultAsRule : Cond.instanceMethod yX3_faultAsRule ∈ pm_gw := pm_gw_of 315 (by decide +kernel) rfl
theorem se_X3_faultAsRule : Cond.selects RX3 yX3_faultAsRule yX3_faultAsRule ∈ pm_gw := pm_gw_of 316 (by decide +kernel) rfl
theorem mok_X3_letterAt : pm_mok mX3_letterAt 1 := ⟨co_X3_letterAt, ini_RX3, ⟨by decide +kernel, by decide +kernel⟩, by decide +kernel, by decide⟩
theorem in_X3_letterAt : Cond.instanceMethod yX3_letterAt ∈ pm_gw := pm_gw_of 319 (by decide +kernel) rfl
theorem se_X3_letterAt : Cond.selects RX3 yX3_letterAt yX3_letterAt ∈ pm_gw := pm_gw_of 320 (by decide +kernel) rfl
theorem mok_X6_isSign : pm_mok mX6_isSign 1 := ⟨co_X6_isSign, ini_RX6, ⟨by decide +kernel, by decide +kernel⟩, by decide +kernel, by decide⟩
theorem st_X6_isSign : Cond.static yX6_isSign ∈ pm_gw := pm_gw_of 323 (by decide +kernel) rfl
theorem mok_X6_asksForKey : pm_mok mX6_asksForKey 1 := ⟨co_X6_asksForKey, ini_RX6, ⟨by decide +kernel, by decide +kernel⟩, by decide +kernel, by decide⟩
theorem st_X6_asksForKey : Cond.static yX6_asksForKey ∈ pm_gw := pm_gw_of 326 (by decide +kernel) rfl
theorem mok_X6_isFigure : pm_mok mX6_isFigure 1 := ⟨co_X6_isFigure, ini_RX6, ⟨by decide +kernel, by decide +kernel⟩, by decide +kernel, by decide⟩
theorem st_X6_isFigure : Cond.static yX6_isFigure ∈ pm_gw := pm_gw_of 329 (by decide +kernel) rfl
theorem mok_X3_tellsNoKey : pm_mok mX3_tellsNoKey 2 := ⟨co_X3_tellsNoKey, ini_RX3, ⟨by decide +kernel, by decide +kernel⟩, by decide +kernel, by decide⟩
theorem in_X3_tellsNoKey : Cond.instanceMethod yX3_tellsNoKey ∈ pm_gw := pm_gw_of 333 (by decide +kernel) rfl
theorem se_X3_tellsNoKey : Cond.selects RX3 yX3_tellsNoKey yX3_tellsNoKey ∈ pm_gw := pm_gw_of 0 (by decide +kernel) rfl
theorem mok_X3_numberAt : pm_mok mX3_numberAt 1 := ⟨co_X3_numberAt, ini_RX3, ⟨by decide +kernel, by decide +kernel⟩, by decide +kernel, by decide⟩
theorem in_X3_numberAt : Cond.instanceMethod yX3_numberAt ∈ pm_gw := pm_gw_of 336 (by decide +kernel) rfl
theorem se_X3_numberAt : Cond.selects RX3 yX3_numberAt yX3_numberAt ∈ pm_gw := pm_gw_of 337 (by decide +kernel) rfl
theorem mok_X6_isKey : pm_mok mX6_isKey 1 := ⟨co_X6_isKey, ini_RX6, ⟨by decide +kernel, by decide +kernel⟩, by decide +kernel, by decide⟩
theorem st_X6_isKey : Cond.static yX6_isKey ∈ pm_gw := pm_gw_of 341 (by decide +kernel) rfl
theorem mok_X4_readRule : pm_mok mX4_readRule 1 := ⟨co_X4_readRule, ini_RX4, ⟨by decide +kernel, by decide +kernel⟩, by decide +kernel, by decide⟩
theorem in_X4_readRule : Cond.instanceMethod yX4_readRule ∈ pm_gw := pm_gw_of 344 (by decide +kernel) rfl
theorem se_X4_readRule : Cond.selects RX4 yX4_readRule yX4_readRule ∈ pm_gw := pm_gw_of 345 (by decide +kernel) rfl
theorem mok_J9_min_7cf53 : pm_mok mJ9_min_7cf53 2 := ⟨co_J9_min_7cf53, ini_RJ9, ⟨by decide +kernel, by decide +kernel⟩, by decide +kernel, by decide⟩
theorem st_J9_min_7cf53 : Cond.static yJ9_min_7cf53 ∈ pm_gw := pm_gw_of 348 (by decide +kernel) rfl
theorem mok_X4_dropTrace : pm_mok mX4_dropTrace 0 := ⟨co_X4_dropTrace, ini_RX4, ⟨by decide +kernel, by decide +kernel⟩, by decide +kernel, by decide⟩
theorem in_X4_dropTrace : Cond.instanceMethod yX4_dropTrace ∈ pm_gw := pm_gw_of 353 (by decide +kernel) rfl
theorem se_X4_dropTrace : Cond.selects RX4 yX4_dropTrace yX4_dropTrace ∈ pm_gw := pm_gw_of 354 (by decide +kernel) rfl
theorem mok_X6_drop : pm_mok mX6_drop 1 := ⟨co_X6_drop, ini_RX6, ⟨by decide +kernel, by decide +kernel⟩, by decide +kernel, by decide⟩
theorem in_X6_drop : Cond.instanceMethod yX6_drop ∈ pm_gw := pm_gw_of 357 (by decide +kernel) rfl
theorem se_X6_drop : Cond.selects RX6 yX6_drop yX6_drop ∈ pm_gw := pm_gw_of 358 (by decide +kernel) rfl
theorem mok_X4_dropRule : pm_mok mX4_dropRule 0 := ⟨co_X4_dropRule, ini_RX4, ⟨by decide +kernel, by decide +kernel⟩, by decide +kernel, by decide⟩
theorem in_X4_dropRule : Cond.instanceMethod yX4_dropRule ∈ pm_gw := pm_gw_of 361 (by decide +kernel) rfl
theorem se_X4_dropRule : Cond.selects RX4 yX4_dropRule yX4_dropRule ∈ pm_gw := pm_gw_of 362 (by decide +kernel) rfl
theorem mok_X6_copy : pm_mok mX6_copy 2 := ⟨co_X6_copy, ini_RX6, ⟨by decide +kernel, by decide +kernel⟩, by decide +kernel, by decide⟩
theorem in_X6_copy : Cond.instanceMethod yX6_copy ∈ pm_gw := pm_gw_of 365 (by decide +kernel) rfl
theorem se_X6_copy : Cond.selects RX6 yX6_copy yX6_copy ∈ pm_gw := pm_gw_of 366 (by decide +kernel) rfl
theorem mok_X4_takeRule : pm_mok mX4_takeRule 1 := ⟨co_X4_takeRule, ini_RX4, ⟨by decide +kernel, by decide +kernel⟩, by decide +kernel, by decide⟩
theorem in_X4_takeRule : Cond.instanceMethod yX4_takeRule ∈ pm_gw := pm_gw_of 369 (by decide +kernel) rfl
theorem se_X4_takeRule : Cond.selects RX4 yX4_takeRule yX4_takeRule ∈ pm_gw := pm_gw_of 370 (by decide +kernel) rfl
theorem mok_X4_copyRule : pm_mok mX4_copyRule 1 := ⟨co_X4_copyRule, ini_RX4, ⟨by decide +kernel, by decide +kernel⟩, by decide +kernel, by decide⟩
theorem in_X4_copyRule : Cond.instanceMethod yX4_copyRule ∈ pm_gw := pm_gw_of 374 (by decide +kernel) rfl
theorem se_X4_copyRule : Cond.selects RX4 yX4_copyRule yX4_copyRule ∈ pm_gw := pm_gw_of 1 (by decide +kernel) rfl
theorem mok_X6_step : pm_mok mX6_step 2 := ⟨co_X6_step, ini_RX6, ⟨by decide +kernel, by decide +kernel⟩, by decide +kernel, by decide⟩
theorem in_X6_step : Cond.instanceMethod yX6_step ∈ pm_gw := pm_gw_of 380 (by decide +kernel) rfl
theorem se_X6_step : Cond.selects RX6 yX6_step yX6_step ∈ pm_gw := pm_gw_of 381 (by decide +kernel) rfl
theorem mok_X4_signAt : pm_mok mX4_signAt 1 := ⟨co_X4_signAt, ini_RX4, ⟨by decide +kernel, by decide +kernel⟩, by decide +kernel, by decide⟩
theorem in_X4_signAt : Cond.instanceMethod yX4_signAt ∈ pm_gw := pm_gw_of 384 (by decide +kernel) rfl
theorem se_X4_signAt : Cond.selects RX4 yX4_signAt yX4_signAt ∈ pm_gw := pm_gw_of 385 (by decide +kernel) rfl
theorem mok_X4_figuresAt : pm_mok mX4_figuresAt 1 := ⟨co_X4_figuresAt, ini_RX4, ⟨by decide +kernel, by decide +kernel⟩, by decide +kernel, by decide⟩
theorem in_X4_figuresAt : Cond.instanceMethod yX4_figuresAt ∈ pm_gw := pm_gw_of 388 (by decide +kernel) rfl
theorem se_X4_figuresAt : Cond.selects RX4 yX4_figuresAt yX4_figuresAt ∈ pm_gw := pm_gw_of 389 (by decide +kernel) rfl
theorem mok_X6_build : pm_mok mX6_build 1 := ⟨co_X6_build, ini_RX6, ⟨by decide +kernel, by decide +kernel⟩, by decide +kernel, by decide⟩
theorem in_X6_build : Cond.instanceMethod yX6_build ∈ pm_gw := pm_gw_of 392 (by decide +kernel) rfl
theorem se_X6_build : Cond.selects RX6 yX6_build yX6_build ∈ pm_gw := pm_gw_of 393 (by decide +kernel) rfl
theorem mok_X0_startsFor : pm_mok mX0_startsFor 1 := ⟨co_X0_startsFor, ini_RX0, ⟨by decide +kernel, by decide +kernel⟩, by decide +kernel, by decide⟩
theorem in_X0_startsFor : Cond.instanceMethod yX0_startsFor ∈ pm_gw := pm_gw_of 397 (by decide +kernel) rfl
theorem se_X0_startsFor : Cond.selects RX0 yX0_startsFor yX0_startsFor ∈ pm_gw := pm_gw_of 398 (by decide +kernel) rfl
theorem mok_X0_bitOf : pm_mok mX0_bitOf 1 := ⟨co_X0_bitOf, ini_RX0, ⟨by decide +kernel, by decide +kernel⟩, by decide +kernel, by decide⟩
theorem st_X0_bitOf : Cond.static yX0_bitOf ∈ pm_gw := pm_gw_of 401 (by decide +kernel) rfl
theorem mok_X0_buildEach : pm_mok mX0_buildEach 2 := ⟨co_X0_buildEach, ini_RX0, ⟨by decide +kernel, by decide +kernel⟩, by decide +kernel, by decide⟩
theorem in_X0_buildEach : Cond.instanceMethod yX0_buildEach ∈ pm_gw := pm_gw_of 405 (by decide +kernel) rfl
theorem se_X0_buildEach : Cond.selects RX0 yX0_buildEach yX0_buildEach ∈ pm_gw := pm_gw_of 406 (by decide +kernel) rfl
theorem mok_X0_forgetBuild : pm_mok mX0_forgetBuild 0 := ⟨co_X0_forgetBuild, ini_RX0, ⟨by decide +kernel, by decide +kernel⟩, by decide +kernel, by decide⟩
theorem in_X0_forgetBuild : Cond.instanceMethod yX0_forgetBuild ∈ pm_gw := pm_gw_of 409 (by decide +kernel) rfl
theorem se_X0_forgetBuild : Cond.selects RX0 yX0_forgetBuild yX0_forgetBuild ∈ pm_gw := pm_gw_of 410 (by decide +kernel) rfl
theorem mok_X0_isIn : pm_mok mX0_isIn 2 := ⟨co_X0_isIn, ini_RX0, ⟨by decide +kernel, by decide +kernel⟩, by decide +kernel, by decide⟩
theorem st_X0_isIn : Cond.static yX0_isIn ∈ pm_gw := pm_gw_of 413 (by decide +kernel) rfl
theorem mok_X0_buildTarget : pm_mok mX0_buildTarget 2 := ⟨co_X0_buildTarget, ini_RX0, ⟨by decide +kernel, by decide +kernel⟩, by decide +kernel, by decide⟩
theorem in_X0_buildTarget : Cond.instanceMethod yX0_buildTarget ∈ pm_gw := pm_gw_of 417 (by decide +kernel) rfl
theorem se_X0_buildTarget : Cond.selects RX0 yX0_buildTarget yX0_buildTarget ∈ pm_gw := pm_gw_of 2 (by decide +kernel) rfl
theorem mok_X5_emptyOf : pm_mok mX5_emptyOf 1 := ⟨co_X5_emptyOf, ini_RX5, ⟨by decide +kernel, by decide +kernel⟩, by decide +kernel, by decide⟩
theorem in_X5_emptyOf : Cond.instanceMethod yX5_emptyOf ∈ pm_gw := pm_gw_of 421 (by decide +kernel) rfl
theorem se_X5_emptyOf : Cond.selects RX5 yX5_emptyOf yX5_emptyOf ∈ pm_gw := pm_gw_of 422 (by decide +kernel) rfl
theorem mok_X0_isStillSame : pm_mok mX0_isStillSame 2 := ⟨co_X0_isStillSame, ini_RX0, ⟨by decide +kernel, by decide +kernel⟩, by decide +kernel, by decide⟩
theorem in_X0_isStillSame : Cond.instanceMethod yX0_isStillSame ∈ pm_gw := pm_gw_of 427 (by decide +kernel) rfl
theorem se_X0_isStillSame : Cond.selects RX0 yX0_isStillSame yX0_isStillSame ∈ pm_gw := pm_gw_of 3 (by decide +kernel) rfl
theorem mok_X4_hasTrace : pm_mok mX4_hasTrace 0 := ⟨co_X4_hasTrace, ini_RX4, ⟨by decide +kernel, by decide +kernel⟩, by decide +kernel, by decide⟩
theorem in_X4_hasTrace : Cond.instanceMethod yX4_hasTrace ∈ pm_gw := pm_gw_of 430 (by decide +kernel) rfl
theorem se_X4_hasTrace : Cond.selects RX4 yX4_hasTrace yX4_hasTrace ∈ pm_gw := pm_gw_of 431 (by decide +kernel) rfl
theorem mok_X4_tracedKey : pm_mok mX4_tracedKey 1 := ⟨co_X4_tracedKey, ini_RX4, ⟨by decide +kernel, by decide +kernel⟩, by decide +kernel, by decide⟩
theorem in_X4_tracedKey : Cond.instanceMethod yX4_tracedKey ∈ pm_gw := pm_gw_of 434 (by decide +kernel) rfl
theorem se_X4_tracedKey : Cond.selects RX4 yX4_tracedKey yX4_tracedKey ∈ pm_gw := pm_gw_of 435 (by decide +kernel) rfl
theorem mok_X5_resultOf : pm_mok mX5_resultOf 1 := ⟨co_X5_resultOf, ini_RX5, ⟨by decide +kernel, by decide +kernel⟩, by decide +kernel, by decide⟩
theorem in_X5_resultOf : Cond.instanceMethod yX5_resultOf ∈ pm_gw := pm_gw_of 438 (by decide +kernel) rfl
theorem se_X5_resultOf : Cond.selects RX5 yX5_resultOf yX5_resultOf ∈ pm_gw := pm_gw_of 439 (by decide +kernel) rfl
theorem mok_X4_tracedResult : pm_mok mX4_tracedResult 1 := ⟨co_X4_tracedResult, ini_RX4, ⟨by decide +kernel, by decide +kernel⟩, by decide +kernel, by decide⟩
theorem in_X4_tracedResult : Cond.instanceMethod yX4_tracedResult ∈ pm_gw := pm_gw_of 444 (by decide +kernel) rfl
theorem se_X4_tracedResult : Cond.selects RX4 yX4_tracedResult yX4_tracedResult ∈ pm_gw := pm_gw_of 445 (by decide +kernel) rfl
theorem mok_X1_areSame : pm_mok mX1_areSame 2 := ⟨co_X1_areSame, ini_RX1, ⟨by decide +kernel, by decide +kernel⟩, by decide +kernel, by decide⟩
theorem st_X1_areSame : Cond.static yX1_areSame ∈ pm_gw := pm_gw_of 448 (by decide +kernel) rfl
theorem mok_X0_runToEnd : pm_mok mX0_runToEnd 3 := ⟨co_X0_runToEnd, ini_RX0, ⟨by decide +kernel, by decide +kernel⟩, by decide +kernel, by decide⟩
theorem in_X0_runToEnd : Cond.instanceMethod yX0_runToEnd ∈ pm_gw := pm_gw_of 452 (by decide +kernel) rfl
theorem se_X0_runToEnd : Cond.selects RX0 yX0_runToEnd yX0_runToEnd ∈ pm_gw := pm_gw_of 4 (by decide +kernel) rfl
theorem mok_X0_runOnce : pm_mok mX0_runOnce 2 := ⟨co_X0_runOnce, ini_RX0, ⟨by decide +kernel, by decide +kernel⟩, by decide +kernel, by decide⟩
theorem in_X0_runOnce : Cond.instanceMethod yX0_runOnce ∈ pm_gw := pm_gw_of 456 (by decide +kernel) rfl
theorem se_X0_runOnce : Cond.selects RX0 yX0_runOnce yX0_runOnce ∈ pm_gw := pm_gw_of 5 (by decide +kernel) rfl
theorem mok_X4_startTrace : pm_mok mX4_startTrace 0 := ⟨co_X4_startTrace, ini_RX4, ⟨by decide +kernel, by decide +kernel⟩, by decide +kernel, by decide⟩
theorem in_X4_startTrace : Cond.instanceMethod yX4_startTrace ∈ pm_gw := pm_gw_of 459 (by decide +kernel) rfl
theorem se_X4_startTrace : Cond.selects RX4 yX4_startTrace yX4_startTrace ∈ pm_gw := pm_gw_of 460 (by decide +kernel) rfl
theorem mok_X0_resultIfDone : pm_mok mX0_resultIfDone 1 := ⟨co_X0_resultIfDone, ini_RX0, ⟨by decide +kernel, by decide +kernel⟩, by decide +kernel, by decide⟩
theorem in_X0_resultIfDone : Cond.instanceMethod yX0_resultIfDone ∈ pm_gw := pm_gw_of 468 (by decide +kernel) rfl
theorem se_X0_resultIfDone : Cond.selects RX0 yX0_resultIfDone yX0_resultIfDone ∈ pm_gw := pm_gw_of 6 (by decide +kernel) rfl
theorem mok_X4_noteInTrace : pm_mok mX4_noteInTrace 2 := ⟨co_X4_noteInTrace, ini_RX4, ⟨by decide +kernel, by decide +kernel⟩, by decide +kernel, by decide⟩
theorem in_X4_noteInTrace : Cond.instanceMethod yX4_noteInTrace ∈ pm_gw := pm_gw_of 471 (by decide +kernel) rfl
theorem se_X4_noteInTrace : Cond.selects RX4 yX4_noteInTrace yX4_noteInTrace ∈ pm_gw := pm_gw_of 472 (by decide +kernel) rfl
theorem mok_X4_traces : pm_mok mX4_traces 1 := ⟨co_X4_traces, ini_RX4, ⟨by decide +kernel, by decide +kernel⟩, by decide +kernel, by decide⟩
theorem in_X4_traces : Cond.instanceMethod yX4_traces ∈ pm_gw := pm_gw_of 475 (by decide +kernel) rfl
theorem se_X4_traces : Cond.selects RX4 yX4_traces yX4_traces ∈ pm_gw := pm_gw_of 476 (by decide +kernel) rfl
theorem mok_X1_isFailure : pm_mok mX1_isFailure 0 := ⟨co_X1_isFailure, ini_RX1, ⟨by decide +kernel, by decide +kernel⟩, by decide +kernel, by decide⟩
theorem in_X1_isFailure : Cond.instanceMethod yX1_isFailure ∈ pm_gw := pm_gw_of 480 (by decide +kernel) rfl
theorem se_X1_isFailure : Cond.selects RX1 yX1_isFailure yX1_isFailure ∈ pm_gw := pm_gw_of 481 (by decide +kernel) rfl
theorem mok_X0_worked : pm_mok mX0_worked 3 := ⟨co_X0_worked, ini_RX0, ⟨by decide +kernel, by decide +kernel⟩, by decide +kernel, by decide⟩
theorem st_X0_worked : Cond.static yX0_worked ∈ pm_gw := pm_gw_of 484 (by decide +kernel) rfl
theorem mok_X0_failingSort : pm_mok mX0_failingSort 4 := ⟨co_X0_failingSort, ini_RX0, ⟨by decide +kernel, by decide +kernel⟩, by decide +kernel, by decide⟩
theorem st_X0_failingSort : Cond.static yX0_failingSort ∈ pm_gw := pm_gw_of 487 (by decide +kernel) rfl
theorem mok_X0_stepsToPass : pm_mok mX0_stepsToPass 3 := ⟨co_X0_stepsToPass, ini_RX0, ⟨by decide +kernel, by decide +kernel⟩, by decide +kernel, by decide⟩
theorem st_X0_stepsToPass : Cond.static yX0_stepsToPass ∈ pm_gw := pm_gw_of 491 (by decide +kernel) rfl
theorem mok_X1_isOrComesOfSort : pm_mok mX1_isOrComesOfSort 1 := ⟨co_X1_isOrComesOfSort, ini_RX1, ⟨by decide +kernel, by decide +kernel⟩, by decide +kernel, by decide⟩
theorem in_X1_isOrComesOfSort : Cond.instanceMethod yX1_isOrComesOfSort ∈ pm_gw := pm_gw_of 495 (by decide +kernel) rfl
theorem se_X1_isOrComesOfSort : Cond.selects RX1 yX1_isOrComesOfSort yX1_isOrComesOfSort ∈ pm_gw := pm_gw_of 496 (by decide +kernel) rfl
theorem mok_X0_noteDone : pm_mok mX0_noteDone 1 := ⟨co_X0_noteDone, ini_RX0, ⟨by decide +kernel, by decide +kernel⟩, by decide +kernel, by decide⟩
theorem in_X0_noteDone : Cond.instanceMethod yX0_noteDone ∈ pm_gw := pm_gw_of 501 (by decide +kernel) rfl
theorem se_X0_noteDone : Cond.selects RX0 yX0_noteDone yX0_noteDone ∈ pm_gw := pm_gw_of 7 (by decide +kernel) rfl
theorem mok_X5_failureOf : pm_mok mX5_failureOf 1 := ⟨co_X5_failureOf, ini_RX5, ⟨by decide +kernel, by decide +kernel⟩, by decide +kernel, by decide⟩
theorem in_X5_failureOf : Cond.instanceMethod yX5_failureOf ∈ pm_gw := pm_gw_of 504 (by decide +kernel) rfl
theorem se_X5_failureOf : Cond.selects RX5 yX5_failureOf yX5_failureOf ∈ pm_gw := pm_gw_of 505 (by decide +kernel) rfl
theorem mok_X6_all : pm_mok mX6_all 1 := ⟨co_X6_all, ini_RX6, ⟨by decide +kernel, by decide +kernel⟩, by decide +kernel, by decide⟩
theorem in_X6_all : Cond.instanceMethod yX6_all ∈ pm_gw := pm_gw_of 510 (by decide +kernel) rfl
theorem se_X6_all : Cond.selects RX6 yX6_all yX6_all ∈ pm_gw := pm_gw_of 511 (by decide +kernel) rfl
theorem mok_X6_isStops : pm_mok mX6_isStops 1 := ⟨co_X6_isStops, ini_RX6, ⟨by decide +kernel, by decide +kernel⟩, by decide +kernel, by decide⟩
theorem st_X6_isStops : Cond.static yX6_isStops ∈ pm_gw := pm_gw_of 514 (by decide +kernel) rfl
theorem mok_X6_some : pm_mok mX6_some 2 := ⟨co_X6_some, ini_RX6, ⟨by decide +kernel, by decide +kernel⟩, by decide +kernel, by decide⟩
theorem in_X6_some : Cond.instanceMethod yX6_some ∈ pm_gw := pm_gw_of 519 (by decide +kernel) rfl
theorem se_X6_some : Cond.selects RX6 yX6_some yX6_some ∈ pm_gw := pm_gw_of 520 (by decide +kernel) rfl
theorem mok_X6_tried : pm_mok mX6_tried 3 := ⟨co_X6_tried, ini_RX6, ⟨by decide +kernel, by decide +kernel⟩, by decide +kernel, by decide⟩
theorem in_X6_tried : Cond.instanceMethod yX6_tried ∈ pm_gw := pm_gw_of 523 (by decide +kernel) rfl
theorem se_X6_tried : Cond.selects RX6 yX6_tried yX6_tried ∈ pm_gw := pm_gw_of 524 (by decide +kernel) rfl
theorem mok_X5_copyFrom : pm_mok mX5_copyFrom 1 := ⟨co_X5_copyFrom, ini_RX5, ⟨by decide +kernel, by decide +kernel⟩, by decide +kernel, by decide⟩
theorem in_X5_copyFrom : Cond.instanceMethod yX5_copyFrom ∈ pm_gw := pm_gw_of 527 (by decide +kernel) rfl
theorem se_X5_copyFrom : Cond.selects RX5 yX5_copyFrom yX5_copyFrom ∈ pm_gw := pm_gw_of 528 (by decide +kernel) rfl
theorem mok_X4_copyFrom : pm_mok mX4_copyFrom 1 := ⟨co_X4_copyFrom, ini_RX4, ⟨by decide +kernel, by decide +kernel⟩, by decide +kernel, by decide⟩
theorem in_X4_copyFrom : Cond.instanceMethod yX4_copyFrom ∈ pm_gw := pm_gw_of 531 (by decide +kernel) rfl
theorem se_X4_copyFrom : Cond.selects RX4 yX4_copyFrom yX4_copyFrom ∈ pm_gw := pm_gw_of 532 (by decide +kernel) rfl
theorem mok_X6_result : pm_mok mX6_result 1 := ⟨co_X6_result, ini_RX6, ⟨by decide +kernel, by decide +kernel⟩, by decide +kernel, by decide⟩
theorem in_X6_result : Cond.instanceMethod yX6_result ∈ pm_gw := pm_gw_of 535 (by decide +kernel) rfl
theorem se_X6_result : Cond.selects RX6 yX6_result yX6_result ∈ pm_gw := pm_gw_of 536 (by decide +kernel) rfl
theorem mok_X5_toldResult : pm_mok mX5_toldResult 1 := ⟨co_X5_toldResult, ini_RX5, ⟨by decide +kernel, by decide +kernel⟩, by decide +kernel, by decide⟩
theorem in_X5_toldResult : Cond.instanceMethod yX5_toldResult ∈ pm_gw := pm_gw_of 540 (by decide +kernel) rfl
theorem se_X5_toldResult : Cond.selects RX5 yX5_toldResult yX5_toldResult ∈ pm_gw := pm_gw_of 541 (by decide +kernel) rfl
theorem mok_X1_asTold : pm_mok mX1_asTold 0 := ⟨co_X1_asTold, ini_RX1, ⟨by decide +kernel, by decide +kernel⟩, by decide +kernel, by decide⟩
theorem in_X1_asTold : Cond.instanceMethod yX1_asTold ∈ pm_gw := pm_gw_of 545 (by decide +kernel) rfl
theorem se_X1_asTold : Cond.selects RX1 yX1_asTold yX1_asTold ∈ pm_gw := pm_gw_of 546 (by decide +kernel) rfl
theorem mok_X6_failure : pm_mok mX6_failure 3 := ⟨co_X6_failure, ini_RX6, ⟨by decide +kernel, by decide +kernel⟩, by decide +kernel, by decide⟩
theorem in_X6_failure : Cond.instanceMethod yX6_failure ∈ pm_gw := pm_gw_of 551 (by decide +kernel) rfl
theorem se_X6_failure : Cond.selects RX6 yX6_failure yX6_failure ∈ pm_gw := pm_gw_of 552 (by decide +kernel) rfl
theorem mok_X6_causes : pm_mok mX6_causes 1 := ⟨co_X6_causes, ini_RX6, ⟨by decide +kernel, by decide +kernel⟩, by decide +kernel, by decide⟩
theorem in_X6_causes : Cond.instanceMethod yX6_causes ∈ pm_gw := pm_gw_of 556 (by decide +kernel) rfl
theorem se_X6_causes : Cond.selects RX6 yX6_causes yX6_causes ∈ pm_gw := pm_gw_of 557 (by decide +kernel) rfl
theorem mok_X1_causeCount : pm_mok mX1_causeCount 0 := ⟨co_X1_causeCount, ini_RX1, ⟨by decide +kernel, by decide +kernel⟩, by decide +kernel, by decide⟩
theorem in_X1_causeCount : Cond.instanceMethod yX1_causeCount ∈ pm_gw := pm_gw_of 560 (by decide +kernel) rfl
theorem se_X1_causeCount : Cond.selects RX1 yX1_causeCount yX1_causeCount ∈ pm_gw := pm_gw_of 561 (by decide +kernel) rfl
theorem mok_X6_root : pm_mok mX6_root 1 := ⟨co_X6_root, ini_RX6, ⟨by decide +kernel, by decide +kernel⟩, by decide +kernel, by decide⟩
theorem in_X6_root : Cond.instanceMethod yX6_root ∈ pm_gw := pm_gw_of 564 (by decide +kernel) rfl
theorem se_X6_root : Cond.selects RX6 yX6_root yX6_root ∈ pm_gw := pm_gw_of 565 (by decide +kernel) rfl
theorem mok_X1_rootKey : pm_mok mX1_rootKey 0 := ⟨co_X1_rootKey, ini_RX1, ⟨by decide +kernel, by decide +kernel⟩, by decide +kernel, by decide⟩
theorem in_X1_rootKey : Cond.instanceMethod yX1_rootKey ∈ pm_gw := pm_gw_of 568 (by decide +kernel) rfl
theorem se_X1_rootKey : Cond.selects RX1 yX1_rootKey yX1_rootKey ∈ pm_gw := pm_gw_of 569 (by decide +kernel) rfl
theorem mok_X6_blamed : pm_mok mX6_blamed 1 := ⟨co_X6_blamed, ini_RX6, ⟨by decide +kernel, by decide +kernel⟩, by decide +kernel, by decide⟩
theorem in_X6_blamed : Cond.instanceMethod yX6_blamed ∈ pm_gw := pm_gw_of 572 (by decide +kernel) rfl
theorem se_X6_blamed : Cond.selects RX6 yX6_blamed yX6_blamed ∈ pm_gw := pm_gw_of 573 (by decide +kernel) rfl
theorem mok_X5_targetsFailingBy : pm_mok mX5_targetsFailingBy 1 := ⟨co_X5_targetsFailingBy, ini_RX5, ⟨by decide +kernel, by decide +kernel⟩, by decide +kernel, by decide⟩
theorem in_X5_targetsFailingBy : Cond.instanceMethod yX5_targetsFailingBy ∈ pm_gw := pm_gw_of 576 (by decide +kernel) rfl
theorem se_X5_targetsFailingBy : Cond.selects RX5 yX5_targetsFailingBy yX5_targetsFailingBy ∈ pm_gw := pm_gw_of 577 (by decide +kernel) rfl
theorem mok_X1_isOrComesOfKey : pm_mok mX1_isOrComesOfKey 1 := ⟨co_X1_isOrComesOfKey, ini_RX1, ⟨by decide +kernel, by decide +kernel⟩, by decide +kernel, by decide⟩
theorem in_X1_isOrComesOfKey : Cond.instanceMethod yX1_isOrComesOfKey ∈ pm_gw := pm_gw_of 581 (by decide +kernel) rfl
theorem se_X1_isOrComesOfKey : Cond.selects RX1 yX1_isOrComesOfKey yX1_isOrComesOfKey ∈ pm_gw := pm_gw_of 582 (by decide +kernel) rfl
theorem mok_X6_trace : pm_mok mX6_trace 2 := ⟨co_X6_trace, ini_RX6, ⟨by decide +kernel, by decide +kernel⟩, by decide +kernel, by decide⟩
theorem in_X6_trace : Cond.instanceMethod yX6_trace ∈ pm_gw := pm_gw_of 585 (by decide +kernel) rfl
theorem se_X6_trace : Cond.selects RX6 yX6_trace yX6_trace ∈ pm_gw := pm_gw_of 586 (by decide +kernel) rfl
theorem mok_X6_seen : pm_mok mX6_seen 2 := ⟨co_X6_seen, ini_RX6, ⟨by decide +kernel, by decide +kernel⟩, by decide +kernel, by decide⟩
theorem in_X6_seen : Cond.instanceMethod yX6_seen ∈ pm_gw := pm_gw_of 591 (by decide +kernel) rfl
theorem se_X6_seen : Cond.selects RX6 yX6_seen yX6_seen ∈ pm_gw := pm_gw_of 592 (by decide +kernel) rfl
theorem mok_X6_users : pm_mok mX6_users 1 := ⟨co_X6_users, ini_RX6, ⟨by decide +kernel, by decide +kernel⟩, by decide +kernel, by decide⟩
theorem in_X6_users : Cond.instanceMethod yX6_users ∈ pm_gw := pm_gw_of 597 (by decide +kernel) rfl
theorem se_X6_users : Cond.selects RX6 yX6_users yX6_users ∈ pm_gw := pm_gw_of 598 (by decide +kernel) rfl
theorem mok_X5_targetsTracing : pm_mok mX5_targetsTracing 1 := ⟨co_X5_targetsTracing, ini_RX5, ⟨by decide +kernel, by decide +kernel⟩, by decide +kernel, by decide⟩
theorem in_X5_targetsTracing : Cond.instanceMethod yX5_targetsTracing ∈ pm_gw := pm_gw_of 601 (by decide +kernel) rfl
theorem se_X5_targetsTracing : Cond.selects RX5 yX5_targetsTracing yX5_targetsTracing ∈ pm_gw := pm_gw_of 602 (by decide +kernel) rfl
theorem mok_X6_depth : pm_mok mX6_depth 1 := ⟨co_X6_depth, ini_RX6, ⟨by decide +kernel, by decide +kernel⟩, by decide +kernel, by decide⟩
theorem in_X6_depth : Cond.instanceMethod yX6_depth ∈ pm_gw := pm_gw_of 606 (by decide +kernel) rfl
theorem se_X6_depth : Cond.selects RX6 yX6_depth yX6_depth ∈ pm_gw := pm_gw_of 607 (by decide +kernel) rfl
theorem mok_X5_depthOf : pm_mok mX5_depthOf 1 := ⟨co_X5_depthOf, ini_RX5, ⟨by decide +kernel, by decide +kernel⟩, by decide +kernel, by decide⟩
theorem in_X5_depthOf : Cond.instanceMethod yX5_depthOf ∈ pm_gw := pm_gw_of 610 (by decide +kernel) rfl
theorem se_X5_depthOf : Cond.selects RX5 yX5_depthOf yX5_depthOf ∈ pm_gw := pm_gw_of 611 (by decide +kernel) rfl
theorem mok_J7_fill_53178 : pm_mok mJ7_fill_53178 2 := ⟨co_J7_fill_53178, ini_RJ7, ⟨by decide +kernel, by decide +kernel⟩, by decide +kernel, by decide⟩
theorem st_J7_fill_53178 : Cond.static yJ7_fill_53178 ∈ pm_gw := pm_gw_of 614 (by decide +kernel) rfl
theorem mok_X5_deepenAll : pm_mok mX5_deepenAll 0 := ⟨co_X5_deepenAll, ini_RX5, ⟨by decide +kernel, by decide +kernel⟩, by decide +kernel, by decide⟩
theorem in_X5_deepenAll : Cond.instanceMethod yX5_deepenAll ∈ pm_gw := pm_gw_of 618 (by decide +kernel) rfl
theorem se_X5_deepenAll : Cond.selects RX5 yX5_deepenAll yX5_deepenAll ∈ pm_gw := pm_gw_of 8 (by decide +kernel) rfl
theorem mok_X5_depthByTrace : pm_mok mX5_depthByTrace 1 := ⟨co_X5_depthByTrace, ini_RX5, ⟨by decide +kernel, by decide +kernel⟩, by decide +kernel, by decide⟩
theorem in_X5_depthByTrace : Cond.instanceMethod yX5_depthByTrace ∈ pm_gw := pm_gw_of 622 (by decide +kernel) rfl
theorem se_X5_depthByTrace : Cond.selects RX5 yX5_depthByTrace yX5_depthByTrace ∈ pm_gw := pm_gw_of 9 (by decide +kernel) rfl
theorem mok_J9_max_7cf53 : pm_mok mJ9_max_7cf53 2 := ⟨co_J9_max_7cf53, ini_RJ9, ⟨by decide +kernel, by decide +kernel⟩, by decide +kernel, by decide⟩
theorem st_J9_max_7cf53 : Cond.static yJ9_max_7cf53 ∈ pm_gw := pm_gw_of 626 (by decide +kernel) rfl
theorem mok_X6_order : pm_mok mX6_order 1 := ⟨co_X6_order, ini_RX6, ⟨by decide +kernel, by decide +kernel⟩, by decide +kernel, by decide⟩
theorem in_X6_order : Cond.instanceMethod yX6_order ∈ pm_gw := pm_gw_of 629 (by decide +kernel) rfl
theorem se_X6_order : Cond.selects RX6 yX6_order yX6_order ∈ pm_gw := pm_gw_of 630 (by decide +kernel) rfl
theorem mok_X0_doneAt : pm_mok mX0_doneAt 1 := ⟨co_X0_doneAt, ini_RX0, ⟨by decide +kernel, by decide +kernel⟩, by decide +kernel, by decide⟩
theorem in_X0_doneAt : Cond.instanceMethod yX0_doneAt ∈ pm_gw := pm_gw_of 633 (by decide +kernel) rfl
theorem se_X0_doneAt : Cond.selects RX0 yX0_doneAt yX0_doneAt ∈ pm_gw := pm_gw_of 634 (by decide +kernel) rfl
theorem mok_X6_unlike : pm_mok mX6_unlike 0 := ⟨co_X6_unlike, ini_RX6, ⟨by decide +kernel, by decide +kernel⟩, by decide +kernel, by decide⟩
theorem in_X6_unlike : Cond.instanceMethod yX6_unlike ∈ pm_gw := pm_gw_of 637 (by decide +kernel) rfl
theorem se_X6_unlike : Cond.selects RX6 yX6_unlike yX6_unlike ∈ pm_gw := pm_gw_of 638 (by decide +kernel) rfl
theorem mok_X5_unlikeResults : pm_mok mX5_unlikeResults 0 := ⟨co_X5_unlikeResults, ini_RX5, ⟨by decide +kernel, by decide +kernel⟩, by decide +kernel, by decide⟩
theorem in_X5_unlikeResults : Cond.instanceMethod yX5_unlikeResults ∈ pm_gw := pm_gw_of 641 (by decide +kernel) rfl
theorem se_X5_unlikeResults : Cond.selects RX5 yX5_unlikeResults yX5_unlikeResults ∈ pm_gw := pm_gw_of 642 (by decide +kernel) rfl
theorem mok_X5_hasSameBelow : pm_mok mX5_hasSameBelow 1 := ⟨co_X5_hasSameBelow, ini_RX5, ⟨by decide +kernel, by decide +kernel⟩, by decide +kernel, by decide⟩
theorem in_X5_hasSameBelow : Cond.instanceMethod yX5_hasSameBelow ∈ pm_gw := pm_gw_of 646 (by decide +kernel) rfl
theorem se_X5_hasSameBelow : Cond.selects RX5 yX5_hasSameBelow yX5_hasSameBelow ∈ pm_gw := pm_gw_of 10 (by decide +kernel) rfl
theorem mok_X6_fresh : pm_mok mX6_fresh 0 := ⟨co_X6_fresh, ini_RX6, ⟨by decide +kernel, by decide +kernel⟩, by decide +kernel, by decide⟩
theorem in_X6_fresh : Cond.instanceMethod yX6_fresh ∈ pm_gw := pm_gw_of 650 (by decide +kernel) rfl
theorem se_X6_fresh : Cond.selects RX6 yX6_fresh yX6_fresh ∈ pm_gw := pm_gw_of 651 (by decide +kernel) rfl
theorem mok_X5_targetsUpToDate : pm_mok mX5_targetsUpToDate 0 := ⟨co_X5_targetsUpToDate, ini_RX5, ⟨by decide +kernel, by decide +kernel⟩, by decide +kernel, by decide⟩
theorem in_X5_targetsUpToDate : Cond.instanceMethod yX5_targetsUpToDate ∈ pm_gw := pm_gw_of 654 (by decide +kernel) rfl
theorem se_X5_targetsUpToDate : Cond.selects RX5 yX5_targetsUpToDate yX5_targetsUpToDate ∈ pm_gw := pm_gw_of 655 (by decide +kernel) rfl
theorem mok_X5_isUpToDate : pm_mok mX5_isUpToDate 1 := ⟨co_X5_isUpToDate, ini_RX5, ⟨by decide +kernel, by decide +kernel⟩, by decide +kernel, by decide⟩
theorem in_X5_isUpToDate : Cond.instanceMethod yX5_isUpToDate ∈ pm_gw := pm_gw_of 659 (by decide +kernel) rfl
theorem se_X5_isUpToDate : Cond.selects RX5 yX5_isUpToDate yX5_isUpToDate ∈ pm_gw := pm_gw_of 11 (by decide +kernel) rfl
theorem mok_X6_forget : pm_mok mX6_forget 1 := ⟨co_X6_forget, ini_RX6, ⟨by decide +kernel, by decide +kernel⟩, by decide +kernel, by decide⟩
theorem in_X6_forget : Cond.instanceMethod yX6_forget ∈ pm_gw := pm_gw_of 664 (by decide +kernel) rfl
theorem se_X6_forget : Cond.selects RX6 yX6_forget yX6_forget ∈ pm_gw := pm_gw_of 665 (by decide +kernel) rfl
theorem mok_X6_told : pm_mok mX6_told 1 := ⟨co_X6_told, ini_RX6, ⟨by decide +kernel, by decide +kernel⟩, by decide +kernel, by decide⟩
theorem in_X6_told : Cond.instanceMethod yX6_told ∈ pm_gw := pm_gw_of 669 (by decide +kernel) rfl
theorem se_X6_told : Cond.selects RX6 yX6_told yX6_told ∈ pm_gw := pm_gw_of 670 (by decide +kernel) rfl
theorem mok_X5_ruleCount : pm_mok mX5_ruleCount 0 := ⟨co_X5_ruleCount, ini_RX5, ⟨by decide +kernel, by decide +kernel⟩, by decide +kernel, by decide⟩
theorem in_X5_ruleCount : Cond.instanceMethod yX5_ruleCount ∈ pm_gw := pm_gw_of 673 (by decide +kernel) rfl
theorem se_X5_ruleCount : Cond.selects RX5 yX5_ruleCount yX5_ruleCount ∈ pm_gw := pm_gw_of 674 (by decide +kernel) rfl
theorem mok_X5_resultCount : pm_mok mX5_resultCount 0 := ⟨co_X5_resultCount, ini_RX5, ⟨by decide +kernel, by decide +kernel⟩, by decide +kernel, by decide⟩
theorem in_X5_resultCount : Cond.instanceMethod yX5_resultCount ∈ pm_gw := pm_gw_of 677 (by decide +kernel) rfl
theorem se_X5_resultCount : Cond.selects RX5 yX5_resultCount yX5_resultCount ∈ pm_gw := pm_gw_of 678 (by decide +kernel) rfl
theorem mok_X5_failureCount : pm_mok mX5_failureCount 0 := ⟨co_X5_failureCount, ini_RX5, ⟨by decide +kernel, by decide +kernel⟩, by decide +kernel, by decide⟩
theorem in_X5_failureCount : Cond.instanceMethod yX5_failureCount ∈ pm_gw := pm_gw_of 681 (by decide +kernel) rfl
theorem se_X5_failureCount : Cond.selects RX5 yX5_failureCount yX5_failureCount ∈ pm_gw := pm_gw_of 682 (by decide +kernel) rfl
theorem mok_X5_traceCount : pm_mok mX5_traceCount 0 := ⟨co_X5_traceCount, ini_RX5, ⟨by decide +kernel, by decide +kernel⟩, by decide +kernel, by decide⟩
theorem in_X5_traceCount : Cond.instanceMethod yX5_traceCount ∈ pm_gw := pm_gw_of 685 (by decide +kernel) rfl
theorem se_X5_traceCount : Cond.selects RX5 yX5_traceCount yX5_traceCount ∈ pm_gw := pm_gw_of 686 (by decide +kernel) rfl
theorem mok_X6_list : pm_mok mX6_list 2 := ⟨co_X6_list, ini_RX6, ⟨by decide +kernel, by decide +kernel⟩, by decide +kernel, by decide⟩
theorem in_X6_list : Cond.instanceMethod yX6_list ∈ pm_gw := pm_gw_of 689 (by decide +kernel) rfl
theorem se_X6_list : Cond.selects RX6 yX6_list yX6_list ∈ pm_gw := pm_gw_of 690 (by decide +kernel) rfl
theorem mok_X6_rowOf : pm_mok mX6_rowOf 1 := ⟨co_X6_rowOf, ini_RX6, ⟨by decide +kernel, by decide +kernel⟩, by decide +kernel, by decide⟩
theorem in_X6_rowOf : Cond.instanceMethod yX6_rowOf ∈ pm_gw := pm_gw_of 694 (by decide +kernel) rfl
theorem se_X6_rowOf : Cond.selects RX6 yX6_rowOf yX6_rowOf ∈ pm_gw := pm_gw_of 12 (by decide +kernel) rfl
theorem mok_X2_hold : pm_mok mX2_hold 1 := ⟨co_X2_hold, ini_RX2, ⟨by decide +kernel, by decide +kernel⟩, by decide +kernel, by decide⟩
theorem in_X2_hold : Cond.instanceMethod yX2_hold ∈ pm_gw := pm_gw_of 697 (by decide +kernel) rfl
theorem se_X2_hold : Cond.selects RX2 yX2_hold yX2_hold ∈ pm_gw := pm_gw_of 698 (by decide +kernel) rfl
theorem mok_J7_fill_d0a16 : pm_mok mJ7_fill_d0a16 2 := ⟨co_J7_fill_d0a16, ini_RJ7, ⟨by decide +kernel, by decide +kernel⟩, by decide +kernel, by decide⟩
theorem st_J7_fill_d0a16 : Cond.static yJ7_fill_d0a16 ∈ pm_gw := pm_gw_of 703 (by decide +kernel) rfl
theorem mok_X6_put : pm_mok mX6_put 3 := ⟨co_X6_put, ini_RX6, ⟨by decide +kernel, by decide +kernel⟩, by decide +kernel, by decide⟩
theorem in_X6_put : Cond.instanceMethod yX6_put ∈ pm_gw := pm_gw_of 706 (by decide +kernel) rfl
theorem se_X6_put : Cond.selects RX6 yX6_put yX6_put ∈ pm_gw := pm_gw_of 707 (by decide +kernel) rfl
theorem mok_X2_write : pm_mok mX2_write 2 := ⟨co_X2_write, ini_RX2, ⟨by decide +kernel, by decide +kernel⟩, by decide +kernel, by decide⟩
theorem in_X2_write : Cond.instanceMethod yX2_write ∈ pm_gw := pm_gw_of 710 (by decide +kernel) rfl
theorem se_X2_write : Cond.selects RX2 yX2_write yX2_write ∈ pm_gw := pm_gw_of 711 (by decide +kernel) rfl
theorem mok_X2_hasPlace : pm_mok mX2_hasPlace 1 := ⟨co_X2_hasPlace, ini_RX2, ⟨by decide +kernel, by decide +kernel⟩, by decide +kernel, by decide⟩
theorem in_X2_hasPlace : Cond.instanceMethod yX2_hasPlace ∈ pm_gw := pm_gw_of 714 (by decide +kernel) rfl
theorem se_X2_hasPlace : Cond.selects RX2 yX2_hasPlace yX2_hasPlace ∈ pm_gw := pm_gw_of 715 (by decide +kernel) rfl
theorem mok_X6_get : pm_mok mX6_get 2 := ⟨co_X6_get, ini_RX6, ⟨by decide +kernel, by decide +kernel⟩, by decide +kernel, by decide⟩
theorem in_X6_get : Cond.instanceMethod yX6_get ∈ pm_gw := pm_gw_of 718 (by decide +kernel) rfl
theorem se_X6_get : Cond.selects RX6 yX6_get yX6_get ∈ pm_gw := pm_gw_of 719 (by decide +kernel) rfl
theorem mok_X2_read : pm_mok mX2_read 1 := ⟨co_X2_read, ini_RX2, ⟨by decide +kernel, by decide +kernel⟩, by decide +kernel, by decide⟩
theorem in_X2_read : Cond.instanceMethod yX2_read ∈ pm_gw := pm_gw_of 723 (by decide +kernel) rfl
theorem se_X2_read : Cond.selects RX2 yX2_read yX2_read ∈ pm_gw := pm_gw_of 724 (by decide +kernel) rfl
theorem mok_X6_move : pm_mok mX6_move 5 := ⟨co_X6_move, ini_RX6, ⟨by decide +kernel, by decide +kernel⟩, by decide +kernel, by decide⟩
theorem in_X6_move : Cond.instanceMethod yX6_move ∈ pm_gw := pm_gw_of 728 (by decide +kernel) rfl
theorem se_X6_move : Cond.selects RX6 yX6_move yX6_move ∈ pm_gw := pm_gw_of 729 (by decide +kernel) rfl
theorem mok_X2_hasSpan : pm_mok mX2_hasSpan 2 := ⟨co_X2_hasSpan, ini_RX2, ⟨by decide +kernel, by decide +kernel⟩, by decide +kernel, by decide⟩
theorem in_X2_hasSpan : Cond.instanceMethod yX2_hasSpan ∈ pm_gw := pm_gw_of 732 (by decide +kernel) rfl
theorem se_X2_hasSpan : Cond.selects RX2 yX2_hasSpan yX2_hasSpan ∈ pm_gw := pm_gw_of 733 (by decide +kernel) rfl
theorem mok_X6_lay : pm_mok mX6_lay 2 := ⟨co_X6_lay, ini_RX6, ⟨by decide +kernel, by decide +kernel⟩, by decide +kernel, by decide⟩
theorem in_X6_lay : Cond.instanceMethod yX6_lay ∈ pm_gw := pm_gw_of 737 (by decide +kernel) rfl
theorem se_X6_lay : Cond.selects RX6 yX6_lay yX6_lay ∈ pm_gw := pm_gw_of 738 (by decide +kernel) rfl
theorem mok_X6_judge : pm_mok mX6_judge 2 := ⟨co_X6_judge, ini_RX6, ⟨by decide +kernel, by decide +kernel⟩, by decide +kernel, by decide⟩
theorem in_X6_judge : Cond.instanceMethod yX6_judge ∈ pm_gw := pm_gw_of 741 (by decide +kernel) rfl
theorem se_X6_judge : Cond.selects RX6 yX6_judge yX6_judge ∈ pm_gw := pm_gw_of 742 (by decide +kernel) rfl
theorem mok_X6_image : pm_mok mX6_image 0 := ⟨co_X6_image, ini_RX6, ⟨by decide +kernel, by decide +kernel⟩, by decide +kernel, by decide⟩
theorem in_X6_image : Cond.instanceMethod yX6_image ∈ pm_gw := pm_gw_of 746 (by decide +kernel) rfl
theorem se_X6_image : Cond.selects RX6 yX6_image yX6_image ∈ pm_gw := pm_gw_of 747 (by decide +kernel) rfl
theorem mok_X6_undo : pm_mok mX6_undo 0 := ⟨co_X6_undo, ini_RX6, ⟨by decide +kernel, by decide +kernel⟩, by decide +kernel, by decide⟩
theorem in_X6_undo : Cond.instanceMethod yX6_undo ∈ pm_gw := pm_gw_of 750 (by decide +kernel) rfl
theorem se_X6_undo : Cond.selects RX6 yX6_undo yX6_undo ∈ pm_gw := pm_gw_of 751 (by decide +kernel) rfl
theorem mok_X7_init : pm_mok mX7_init 0 := ⟨co_X7_init, ini_RX7, ⟨by decide +kernel, by decide +kernel⟩, by decide +kernel, by decide⟩
theorem in_X7_init : Cond.instanceMethod yX7_init ∈ pm_gw := pm_gw_of 757 (by decide +kernel) rfl
theorem mok_X7_give : pm_mok mX7_give 2 := ⟨co_X7_give, ini_RX7, ⟨by decide +kernel, by decide +kernel⟩, by decide +kernel, by decide⟩
theorem in_X7_give : Cond.instanceMethod yX7_give ∈ pm_gw := pm_gw_of 850 (by decide +kernel) rfl
theorem se_X7_give : Cond.selects RX7 yX7_give yX7_give ∈ pm_gw := pm_gw_of 851 (by decide +kernel) rfl
theorem mok_X7_isInput : pm_mok mX7_isInput 1 := ⟨co_X7_isInput, ini_RX7, ⟨by decide +kernel, by decide +kernel⟩, by decide +kernel, by decide⟩
theorem st_X7_isInput : Cond.static yX7_isInput ∈ pm_gw := pm_gw_of 854 (by decide +kernel) rfl
theorem mok_X7_isIn : pm_mok mX7_isIn 3 := ⟨co_X7_isIn, ini_RX7, ⟨by decide +kernel, by decide +kernel⟩, by decide +kernel, by decide⟩
theorem st_X7_isIn : Cond.static yX7_isIn ∈ pm_gw := pm_gw_of 858 (by decide +kernel) rfl
theorem mok_X7_numberResult : pm_mok mX7_numberResult 1 := ⟨co_X7_numberResult, ini_RX7, ⟨by decide +kernel, by decide +kernel⟩, by decide +kernel, by decide⟩
theorem st_X7_numberResult : Cond.static yX7_numberResult ∈ pm_gw := pm_gw_of 863 (by decide +kernel) rfl
theorem mok_X7_take : pm_mok mX7_take 1 := ⟨co_X7_take, ini_RX7, ⟨by decide +kernel, by decide +kernel⟩, by decide +kernel, by decide⟩
theorem in_X7_take : Cond.instanceMethod yX7_take ∈ pm_gw := pm_gw_of 867 (by decide +kernel) rfl
theorem se_X7_take : Cond.selects RX7 yX7_take yX7_take ∈ pm_gw := pm_gw_of 868 (by decide +kernel) rfl
theorem mok_X7_numberOf : pm_mok mX7_numberOf 1 := ⟨co_X7_numberOf, ini_RX7, ⟨by decide +kernel, by decide +kernel⟩, by decide +kernel, by decide⟩
theorem st_X7_numberOf : Cond.static yX7_numberOf ∈ pm_gw := pm_gw_of 871 (by decide +kernel) rfl
theorem mok_X7_feed : pm_mok mX7_feed 1 := ⟨co_X7_feed, ini_RX7, ⟨by decide +kernel, by decide +kernel⟩, by decide +kernel, by decide⟩
theorem in_X7_feed : Cond.instanceMethod yX7_feed ∈ pm_gw := pm_gw_of 874 (by decide +kernel) rfl
theorem se_X7_feed : Cond.selects RX7 yX7_feed yX7_feed ∈ pm_gw := pm_gw_of 875 (by decide +kernel) rfl
theorem mok_X7_clear : pm_mok mX7_clear 0 := ⟨co_X7_clear, ini_RX7, ⟨by decide +kernel, by decide +kernel⟩, by decide +kernel, by decide⟩
theorem in_X7_clear : Cond.instanceMethod yX7_clear ∈ pm_gw := pm_gw_of 879 (by decide +kernel) rfl
theorem se_X7_clear : Cond.selects RX7 yX7_clear yX7_clear ∈ pm_gw := pm_gw_of 880 (by decide +kernel) rfl
theorem mok_X7_rule : pm_mok mX7_rule 1 := ⟨co_X7_rule, ini_RX7, ⟨by decide +kernel, by decide +kernel⟩, by decide +kernel, by decide⟩
theorem in_X7_rule : Cond.instanceMethod yX7_rule ∈ pm_gw := pm_gw_of 883 (by decide +kernel) rfl
theorem se_X7_rule : Cond.selects RX7 yX7_rule yX7_rule ∈ pm_gw := pm_gw_of 884 (by decide +kernel) rfl
theorem mok_X7_isTarget : pm_mok mX7_isTarget 1 := ⟨co_X7_isTarget, ini_RX7, ⟨by decide +kernel, by decide +kernel⟩, by decide +kernel, by decide⟩
theorem st_X7_isTarget : Cond.static yX7_isTarget ∈ pm_gw := pm_gw_of 887 (by decide +kernel) rfl
theorem mok_X7_fault : pm_mok mX7_fault 0 := ⟨co_X7_fault, ini_RX7, ⟨by decide +kernel, by decide +kernel⟩, by decide +kernel, by decide⟩
theorem in_X7_fault : Cond.instanceMethod yX7_fault ∈ pm_gw := pm_gw_of 893 (by decide +kernel) rfl
theorem se_X7_fault : Cond.selects RX7 yX7_fault yX7_fault ∈ pm_gw := pm_gw_of 13 (by decide +kernel) rfl
theorem mok_X7_isSign : pm_mok mX7_isSign 1 := ⟨co_X7_isSign, ini_RX7, ⟨by decide +kernel, by decide +kernel⟩, by decide +kernel, by decide⟩
theorem st_X7_isSign : Cond.static yX7_isSign ∈ pm_gw := pm_gw_of 896 (by decide +kernel) rfl
theorem mok_X7_isAsking : pm_mok mX7_isAsking 1 := ⟨co_X7_isAsking, ini_RX7, ⟨by decide +kernel, by decide +kernel⟩, by decide +kernel, by decide⟩
theorem st_X7_isAsking : Cond.static yX7_isAsking ∈ pm_gw := pm_gw_of 899 (by decide +kernel) rfl
theorem mok_X7_isFigure : pm_mok mX7_isFigure 1 := ⟨co_X7_isFigure, ini_RX7, ⟨by decide +kernel, by decide +kernel⟩, by decide +kernel, by decide⟩
theorem in_X7_isFigure : Cond.instanceMethod yX7_isFigure ∈ pm_gw := pm_gw_of 903 (by decide +kernel) rfl
theorem se_X7_isFigure : Cond.selects RX7 yX7_isFigure yX7_isFigure ∈ pm_gw := pm_gw_of 14 (by decide +kernel) rfl
theorem mok_X7_traceAt : pm_mok mX7_traceAt 1 := ⟨co_X7_traceAt, ini_RX7, ⟨by decide +kernel, by decide +kernel⟩, by decide +kernel, by decide⟩
theorem in_X7_traceAt : Cond.instanceMethod yX7_traceAt ∈ pm_gw := pm_gw_of 909 (by decide +kernel) rfl
theorem se_X7_traceAt : Cond.selects RX7 yX7_traceAt yX7_traceAt ∈ pm_gw := pm_gw_of 15 (by decide +kernel) rfl
theorem mok_X7_drop : pm_mok mX7_drop 1 := ⟨co_X7_drop, ini_RX7, ⟨by decide +kernel, by decide +kernel⟩, by decide +kernel, by decide⟩
theorem in_X7_drop : Cond.instanceMethod yX7_drop ∈ pm_gw := pm_gw_of 912 (by decide +kernel) rfl
theorem se_X7_drop : Cond.selects RX7 yX7_drop yX7_drop ∈ pm_gw := pm_gw_of 913 (by decide +kernel) rfl
theorem mok_X7_ruled : pm_mok mX7_ruled 2 := ⟨co_X7_ruled, ini_RX7, ⟨by decide +kernel, by decide +kernel⟩, by decide +kernel, by decide⟩
theorem in_X7_ruled : Cond.instanceMethod yX7_ruled ∈ pm_gw := pm_gw_of 917 (by decide +kernel) rfl
theorem se_X7_ruled : Cond.selects RX7 yX7_ruled yX7_ruled ∈ pm_gw := pm_gw_of 16 (by decide +kernel) rfl
theorem mok_X7_copy : pm_mok mX7_copy 2 := ⟨co_X7_copy, ini_RX7, ⟨by decide +kernel, by decide +kernel⟩, by decide +kernel, by decide⟩
theorem in_X7_copy : Cond.instanceMethod yX7_copy ∈ pm_gw := pm_gw_of 920 (by decide +kernel) rfl
theorem se_X7_copy : Cond.selects RX7 yX7_copy yX7_copy ∈ pm_gw := pm_gw_of 921 (by decide +kernel) rfl
theorem mok_X7_step : pm_mok mX7_step 2 := ⟨co_X7_step, ini_RX7, ⟨by decide +kernel, by decide +kernel⟩, by decide +kernel, by decide⟩
theorem in_X7_step : Cond.instanceMethod yX7_step ∈ pm_gw := pm_gw_of 924 (by decide +kernel) rfl
theorem se_X7_step : Cond.selects RX7 yX7_step yX7_step ∈ pm_gw := pm_gw_of 925 (by decide +kernel) rfl
theorem mok_X7_build : pm_mok mX7_build 1 := ⟨co_X7_build, ini_RX7, ⟨by decide +kernel, by decide +kernel⟩, by decide +kernel, by decide⟩
theorem in_X7_build : Cond.instanceMethod yX7_build ∈ pm_gw := pm_gw_of 928 (by decide +kernel) rfl
theorem se_X7_build : Cond.selects RX7 yX7_build yX7_build ∈ pm_gw := pm_gw_of 929 (by decide +kernel) rfl
theorem mok_X7_built : pm_mok mX7_built 2 := ⟨co_X7_built, ini_RX7, ⟨by decide +kernel, by decide +kernel⟩, by decide +kernel, by decide⟩
theorem in_X7_built : Cond.instanceMethod yX7_built ∈ pm_gw := pm_gw_of 933 (by decide +kernel) rfl
theorem se_X7_built : Cond.selects RX7 yX7_built yX7_built ∈ pm_gw := pm_gw_of 17 (by decide +kernel) rfl
theorem mok_X7_builds : pm_mok mX7_builds 1 := ⟨co_X7_builds, ini_RX7, ⟨by decide +kernel, by decide +kernel⟩, by decide +kernel, by decide⟩
theorem in_X7_builds : Cond.instanceMethod yX7_builds ∈ pm_gw := pm_gw_of 937 (by decide +kernel) rfl
theorem se_X7_builds : Cond.selects RX7 yX7_builds yX7_builds ∈ pm_gw := pm_gw_of 18 (by decide +kernel) rfl
theorem mok_X7_fails : pm_mok mX7_fails 4 := ⟨co_X7_fails, ini_RX7, ⟨by decide +kernel, by decide +kernel⟩, by decide +kernel, by decide⟩
theorem in_X7_fails : Cond.instanceMethod yX7_fails ∈ pm_gw := pm_gw_of 941 (by decide +kernel) rfl
theorem se_X7_fails : Cond.selects RX7 yX7_fails yX7_fails ∈ pm_gw := pm_gw_of 19 (by decide +kernel) rfl
theorem mok_X7_traced : pm_mok mX7_traced 1 := ⟨co_X7_traced, ini_RX7, ⟨by decide +kernel, by decide +kernel⟩, by decide +kernel, by decide⟩
theorem in_X7_traced : Cond.instanceMethod yX7_traced ∈ pm_gw := pm_gw_of 945 (by decide +kernel) rfl
theorem se_X7_traced : Cond.selects RX7 yX7_traced yX7_traced ∈ pm_gw := pm_gw_of 20 (by decide +kernel) rfl
theorem mok_X7_isAsSeen : pm_mok mX7_isAsSeen 1 := ⟨co_X7_isAsSeen, ini_RX7, ⟨by decide +kernel, by decide +kernel⟩, by decide +kernel, by decide⟩
theorem in_X7_isAsSeen : Cond.instanceMethod yX7_isAsSeen ∈ pm_gw := pm_gw_of 949 (by decide +kernel) rfl
theorem se_X7_isAsSeen : Cond.selects RX7 yX7_isAsSeen yX7_isAsSeen ∈ pm_gw := pm_gw_of 21 (by decide +kernel) rfl
theorem mok_X7_isDone : pm_mok mX7_isDone 1 := ⟨co_X7_isDone, ini_RX7, ⟨by decide +kernel, by decide +kernel⟩, by decide +kernel, by decide⟩
theorem in_X7_isDone : Cond.instanceMethod yX7_isDone ∈ pm_gw := pm_gw_of 953 (by decide +kernel) rfl
theorem se_X7_isDone : Cond.selects RX7 yX7_isDone yX7_isDone ∈ pm_gw := pm_gw_of 22 (by decide +kernel) rfl
theorem mok_X7_has : pm_mok mX7_has 1 := ⟨co_X7_has, ini_RX7, ⟨by decide +kernel, by decide +kernel⟩, by decide +kernel, by decide⟩
theorem in_X7_has : Cond.instanceMethod yX7_has ∈ pm_gw := pm_gw_of 957 (by decide +kernel) rfl
theorem se_X7_has : Cond.selects RX7 yX7_has yX7_has ∈ pm_gw := pm_gw_of 23 (by decide +kernel) rfl
theorem mok_X7_runs : pm_mok mX7_runs 1 := ⟨co_X7_runs, ini_RX7, ⟨by decide +kernel, by decide +kernel⟩, by decide +kernel, by decide⟩
theorem in_X7_runs : Cond.instanceMethod yX7_runs ∈ pm_gw := pm_gw_of 961 (by decide +kernel) rfl
theorem se_X7_runs : Cond.selects RX7 yX7_runs yX7_runs ∈ pm_gw := pm_gw_of 24 (by decide +kernel) rfl
theorem mok_X7_goes : pm_mok mX7_goes 1 := ⟨co_X7_goes, ini_RX7, ⟨by decide +kernel, by decide +kernel⟩, by decide +kernel, by decide⟩
theorem in_X7_goes : Cond.instanceMethod yX7_goes ∈ pm_gw := pm_gw_of 965 (by decide +kernel) rfl
theorem se_X7_goes : Cond.selects RX7 yX7_goes yX7_goes ∈ pm_gw := pm_gw_of 25 (by decide +kernel) rfl
theorem mok_X7_notes : pm_mok mX7_notes 2 := ⟨co_X7_notes, ini_RX7, ⟨by decide +kernel, by decide +kernel⟩, by decide +kernel, by decide⟩
theorem in_X7_notes : Cond.instanceMethod yX7_notes ∈ pm_gw := pm_gw_of 969 (by decide +kernel) rfl
theorem se_X7_notes : Cond.selects RX7 yX7_notes yX7_notes ∈ pm_gw := pm_gw_of 26 (by decide +kernel) rfl
theorem mok_X7_isFailure : pm_mok mX7_isFailure 1 := ⟨co_X7_isFailure, ini_RX7, ⟨by decide +kernel, by decide +kernel⟩, by decide +kernel, by decide⟩
theorem st_X7_isFailure : Cond.static yX7_isFailure ∈ pm_gw := pm_gw_of 972 (by decide +kernel) rfl
theorem mok_X7_isOfRing : pm_mok mX7_isOfRing 1 := ⟨co_X7_isOfRing, ini_RX7, ⟨by decide +kernel, by decide +kernel⟩, by decide +kernel, by decide⟩
theorem in_X7_isOfRing : Cond.instanceMethod yX7_isOfRing ∈ pm_gw := pm_gw_of 976 (by decide +kernel) rfl
theorem se_X7_isOfRing : Cond.selects RX7 yX7_isOfRing yX7_isOfRing ∈ pm_gw := pm_gw_of 27 (by decide +kernel) rfl
theorem mok_X7_finishes : pm_mok mX7_finishes 1 := ⟨co_X7_finishes, ini_RX7, ⟨by decide +kernel, by decide +kernel⟩, by decide +kernel, by decide⟩
theorem in_X7_finishes : Cond.instanceMethod yX7_finishes ∈ pm_gw := pm_gw_of 980 (by decide +kernel) rfl
theorem se_X7_finishes : Cond.selects RX7 yX7_finishes yX7_finishes ∈ pm_gw := pm_gw_of 28 (by decide +kernel) rfl
theorem mok_X7_manyDone : pm_mok mX7_manyDone 0 := ⟨co_X7_manyDone, ini_RX7, ⟨by decide +kernel, by decide +kernel⟩, by decide +kernel, by decide⟩
theorem in_X7_manyDone : Cond.instanceMethod yX7_manyDone ∈ pm_gw := pm_gw_of 984 (by decide +kernel) rfl
theorem se_X7_manyDone : Cond.selects RX7 yX7_manyDone yX7_manyDone ∈ pm_gw := pm_gw_of 29 (by decide +kernel) rfl
theorem mok_X7_all : pm_mok mX7_all 1 := ⟨co_X7_all, ini_RX7, ⟨by decide +kernel, by decide +kernel⟩, by decide +kernel, by decide⟩
theorem in_X7_all : Cond.instanceMethod yX7_all ∈ pm_gw := pm_gw_of 987 (by decide +kernel) rfl
theorem se_X7_all : Cond.selects RX7 yX7_all yX7_all ∈ pm_gw := pm_gw_of 988 (by decide +kernel) rfl
theorem mok_X7_some : pm_mok mX7_some 2 := ⟨co_X7_some, ini_RX7, ⟨by decide +kernel, by decide +kernel⟩, by decide +kernel, by decide⟩
theorem in_X7_some : Cond.instanceMethod yX7_some ∈ pm_gw := pm_gw_of 992 (by decide +kernel) rfl
theorem se_X7_some : Cond.selects RX7 yX7_some yX7_some ∈ pm_gw := pm_gw_of 993 (by decide +kernel) rfl
theorem mok_X7_tried : pm_mok mX7_tried 3 := ⟨co_X7_tried, ini_RX7, ⟨by decide +kernel, by decide +kernel⟩, by decide +kernel, by decide⟩
theorem in_X7_tried : Cond.instanceMethod yX7_tried ∈ pm_gw := pm_gw_of 997 (by decide +kernel) rfl
theorem se_X7_tried : Cond.selects RX7 yX7_tried yX7_tried ∈ pm_gw := pm_gw_of 998 (by decide +kernel) rfl
theorem mok_X7_pours : pm_mok mX7_pours 2 := ⟨co_X7_pours, ini_RX7, ⟨by decide +kernel, by decide +kernel⟩, by decide +kernel, by decide⟩
theorem st_X7_pours : Cond.static yX7_pours ∈ pm_gw := pm_gw_of 1001 (by decide +kernel) rfl
theorem mok_X7_result : pm_mok mX7_result 1 := ⟨co_X7_result, ini_RX7, ⟨by decide +kernel, by decide +kernel⟩, by decide +kernel, by decide⟩
theorem in_X7_result : Cond.instanceMethod yX7_result ∈ pm_gw := pm_gw_of 1004 (by decide +kernel) rfl
theorem se_X7_result : Cond.selects RX7 yX7_result yX7_result ∈ pm_gw := pm_gw_of 1005 (by decide +kernel) rfl
theorem mok_X7_isKey : pm_mok mX7_isKey 1 := ⟨co_X7_isKey, ini_RX7, ⟨by decide +kernel, by decide +kernel⟩, by decide +kernel, by decide⟩
theorem st_X7_isKey : Cond.static yX7_isKey ∈ pm_gw := pm_gw_of 1008 (by decide +kernel) rfl
theorem mok_X7_toldOf : pm_mok mX7_toldOf 1 := ⟨co_X7_toldOf, ini_RX7, ⟨by decide +kernel, by decide +kernel⟩, by decide +kernel, by decide⟩
theorem in_X7_toldOf : Cond.instanceMethod yX7_toldOf ∈ pm_gw := pm_gw_of 1012 (by decide +kernel) rfl
theorem se_X7_toldOf : Cond.selects RX7 yX7_toldOf yX7_toldOf ∈ pm_gw := pm_gw_of 30 (by decide +kernel) rfl
theorem mok_X7_failure : pm_mok mX7_failure 3 := ⟨co_X7_failure, ini_RX7, ⟨by decide +kernel, by decide +kernel⟩, by decide +kernel, by decide⟩
theorem in_X7_failure : Cond.instanceMethod yX7_failure ∈ pm_gw := pm_gw_of 1016 (by decide +kernel) rfl
theorem se_X7_failure : Cond.selects RX7 yX7_failure yX7_failure ∈ pm_gw := pm_gw_of 1017 (by decide +kernel) rfl
theorem mok_X7_causeOf : pm_mok mX7_causeOf 2 := ⟨co_X7_causeOf, ini_RX7, ⟨by decide +kernel, by decide +kernel⟩, by decide +kernel, by decide⟩
theorem in_X7_causeOf : Cond.instanceMethod yX7_causeOf ∈ pm_gw := pm_gw_of 1022 (by decide +kernel) rfl
theorem se_X7_causeOf : Cond.selects RX7 yX7_causeOf yX7_causeOf ∈ pm_gw := pm_gw_of 31 (by decide +kernel) rfl
theorem mok_X7_causes : pm_mok mX7_causes 1 := ⟨co_X7_causes, ini_RX7, ⟨by decide +kernel, by decide +kernel⟩, by decide +kernel, by decide⟩
theorem in_X7_causes : Cond.instanceMethod yX7_causes ∈ pm_gw := pm_gw_of 1025 (by decide +kernel) rfl
theorem se_X7_causes : Cond.selects RX7 yX7_causes yX7_causes ∈ pm_gw := pm_gw_of 1026 (by decide +kernel) rfl
theorem mok_X7_root : pm_mok mX7_root 1 := ⟨co_X7_root, ini_RX7, ⟨by decide +kernel, by decide +kernel⟩, by decide +kernel, by decide⟩
theorem in_X7_root : Cond.instanceMethod yX7_root ∈ pm_gw := pm_gw_of 1029 (by decide +kernel) rfl
theorem se_X7_root : Cond.selects RX7 yX7_root yX7_root ∈ pm_gw := pm_gw_of 1030 (by decide +kernel) rfl
theorem mok_X7_blamed : pm_mok mX7_blamed 1 := ⟨co_X7_blamed, ini_RX7, ⟨by decide +kernel, by decide +kernel⟩, by decide +kernel, by decide⟩
theorem in_X7_blamed : Cond.instanceMethod yX7_blamed ∈ pm_gw := pm_gw_of 1033 (by decide +kernel) rfl
theorem se_X7_blamed : Cond.selects RX7 yX7_blamed yX7_blamed ∈ pm_gw := pm_gw_of 1034 (by decide +kernel) rfl
theorem mok_X7_trace : pm_mok mX7_trace 2 := ⟨co_X7_trace, ini_RX7, ⟨by decide +kernel, by decide +kernel⟩, by decide +kernel, by decide⟩
theorem in_X7_trace : Cond.instanceMethod yX7_trace ∈ pm_gw := pm_gw_of 1037 (by decide +kernel) rfl
theorem se_X7_trace : Cond.selects RX7 yX7_trace yX7_trace ∈ pm_gw := pm_gw_of 1038 (by decide +kernel) rfl
theorem mok_X7_amiss : pm_mok mX7_amiss 2 := ⟨co_X7_amiss, ini_RX7, ⟨by decide +kernel, by decide +kernel⟩, by decide +kernel, by decide⟩
theorem in_X7_amiss : Cond.instanceMethod yX7_amiss ∈ pm_gw := pm_gw_of 1042 (by decide +kernel) rfl
theorem se_X7_amiss : Cond.selects RX7 yX7_amiss yX7_amiss ∈ pm_gw := pm_gw_of 32 (by decide +kernel) rfl
theorem mok_X7_seen : pm_mok mX7_seen 2 := ⟨co_X7_seen, ini_RX7, ⟨by decide +kernel, by decide +kernel⟩, by decide +kernel, by decide⟩
theorem in_X7_seen : Cond.instanceMethod yX7_seen ∈ pm_gw := pm_gw_of 1045 (by decide +kernel) rfl
theorem se_X7_seen : Cond.selects RX7 yX7_seen yX7_seen ∈ pm_gw := pm_gw_of 1046 (by decide +kernel) rfl
theorem mok_X7_users : pm_mok mX7_users 1 := ⟨co_X7_users, ini_RX7, ⟨by decide +kernel, by decide +kernel⟩, by decide +kernel, by decide⟩
theorem in_X7_users : Cond.instanceMethod yX7_users ∈ pm_gw := pm_gw_of 1049 (by decide +kernel) rfl
theorem se_X7_users : Cond.selects RX7 yX7_users yX7_users ∈ pm_gw := pm_gw_of 1050 (by decide +kernel) rfl
theorem mok_X7_isTraced : pm_mok mX7_isTraced 2 := ⟨co_X7_isTraced, ini_RX7, ⟨by decide +kernel, by decide +kernel⟩, by decide +kernel, by decide⟩
theorem in_X7_isTraced : Cond.instanceMethod yX7_isTraced ∈ pm_gw := pm_gw_of 1054 (by decide +kernel) rfl
theorem se_X7_isTraced : Cond.selects RX7 yX7_isTraced yX7_isTraced ∈ pm_gw := pm_gw_of 33 (by decide +kernel) rfl
theorem mok_X7_depth : pm_mok mX7_depth 1 := ⟨co_X7_depth, ini_RX7, ⟨by decide +kernel, by decide +kernel⟩, by decide +kernel, by decide⟩
theorem in_X7_depth : Cond.instanceMethod yX7_depth ∈ pm_gw := pm_gw_of 1057 (by decide +kernel) rfl
theorem se_X7_depth : Cond.selects RX7 yX7_depth yX7_depth ∈ pm_gw := pm_gw_of 1058 (by decide +kernel) rfl
theorem mok_X7_order : pm_mok mX7_order 1 := ⟨co_X7_order, ini_RX7, ⟨by decide +kernel, by decide +kernel⟩, by decide +kernel, by decide⟩
theorem in_X7_order : Cond.instanceMethod yX7_order ∈ pm_gw := pm_gw_of 1062 (by decide +kernel) rfl
theorem se_X7_order : Cond.selects RX7 yX7_order yX7_order ∈ pm_gw := pm_gw_of 1063 (by decide +kernel) rfl
theorem mok_X7_unlike : pm_mok mX7_unlike 0 := ⟨co_X7_unlike, ini_RX7, ⟨by decide +kernel, by decide +kernel⟩, by decide +kernel, by decide⟩
theorem in_X7_unlike : Cond.instanceMethod yX7_unlike ∈ pm_gw := pm_gw_of 1066 (by decide +kernel) rfl
theorem se_X7_unlike : Cond.selects RX7 yX7_unlike yX7_unlike ∈ pm_gw := pm_gw_of 1067 (by decide +kernel) rfl
theorem mok_X7_fresh : pm_mok mX7_fresh 0 := ⟨co_X7_fresh, ini_RX7, ⟨by decide +kernel, by decide +kernel⟩, by decide +kernel, by decide⟩
theorem in_X7_fresh : Cond.instanceMethod yX7_fresh ∈ pm_gw := pm_gw_of 1070 (by decide +kernel) rfl
theorem se_X7_fresh : Cond.selects RX7 yX7_fresh yX7_fresh ∈ pm_gw := pm_gw_of 1071 (by decide +kernel) rfl
theorem mok_X7_forget : pm_mok mX7_forget 1 := ⟨co_X7_forget, ini_RX7, ⟨by decide +kernel, by decide +kernel⟩, by decide +kernel, by decide⟩
theorem in_X7_forget : Cond.instanceMethod yX7_forget ∈ pm_gw := pm_gw_of 1074 (by decide +kernel) rfl
theorem se_X7_forget : Cond.selects RX7 yX7_forget yX7_forget ∈ pm_gw := pm_gw_of 1075 (by decide +kernel) rfl
theorem mok_X7_told : pm_mok mX7_told 1 := ⟨co_X7_told, ini_RX7, ⟨by decide +kernel, by decide +kernel⟩, by decide +kernel, by decide⟩
theorem in_X7_told : Cond.instanceMethod yX7_told ∈ pm_gw := pm_gw_of 1078 (by decide +kernel) rfl
theorem se_X7_told : Cond.selects RX7 yX7_told yX7_told ∈ pm_gw := pm_gw_of 1079 (by decide +kernel) rfl
theorem mok_X7_having : pm_mok mX7_having 1 := ⟨co_X7_having, ini_RX7, ⟨by decide +kernel, by decide +kernel⟩, by decide +kernel, by decide⟩
theorem in_X7_having : Cond.instanceMethod yX7_having ∈ pm_gw := pm_gw_of 1083 (by decide +kernel) rfl
theorem se_X7_having : Cond.selects RX7 yX7_having yX7_having ∈ pm_gw := pm_gw_of 34 (by decide +kernel) rfl
theorem mok_X7_list : pm_mok mX7_list 2 := ⟨co_X7_list, ini_RX7, ⟨by decide +kernel, by decide +kernel⟩, by decide +kernel, by decide⟩
theorem in_X7_list : Cond.instanceMethod yX7_list ∈ pm_gw := pm_gw_of 1086 (by decide +kernel) rfl
theorem se_X7_list : Cond.selects RX7 yX7_list yX7_list ∈ pm_gw := pm_gw_of 1087 (by decide +kernel) rfl
theorem mok_X7_isList : pm_mok mX7_isList 1 := ⟨co_X7_isList, ini_RX7, ⟨by decide +kernel, by decide +kernel⟩, by decide +kernel, by decide⟩
theorem st_X7_isList : Cond.static yX7_isList ∈ pm_gw := pm_gw_of 1090 (by decide +kernel) rfl
theorem mok_X7_put : pm_mok mX7_put 3 := ⟨co_X7_put, ini_RX7, ⟨by decide +kernel, by decide +kernel⟩, by decide +kernel, by decide⟩
theorem in_X7_put : Cond.instanceMethod yX7_put ∈ pm_gw := pm_gw_of 1094 (by decide +kernel) rfl
theorem se_X7_put : Cond.selects RX7 yX7_put yX7_put ∈ pm_gw := pm_gw_of 1095 (by decide +kernel) rfl
theorem mok_X7_get : pm_mok mX7_get 2 := ⟨co_X7_get, ini_RX7, ⟨by decide +kernel, by decide +kernel⟩, by decide +kernel, by decide⟩
theorem in_X7_get : Cond.instanceMethod yX7_get ∈ pm_gw := pm_gw_of 1098 (by decide +kernel) rfl
theorem se_X7_get : Cond.selects RX7 yX7_get yX7_get ∈ pm_gw := pm_gw_of 1099 (by decide +kernel) rfl
theorem mok_X7_move : pm_mok mX7_move 5 := ⟨co_X7_move, ini_RX7, ⟨by decide +kernel, by decide +kernel⟩, by decide +kernel, by decide⟩
theorem in_X7_move : Cond.instanceMethod yX7_move ∈ pm_gw := pm_gw_of 1103 (by decide +kernel) rfl
theorem se_X7_move : Cond.selects RX7 yX7_move yX7_move ∈ pm_gw := pm_gw_of 1104 (by decide +kernel) rfl
theorem mok_X7_lay : pm_mok mX7_lay 2 := ⟨co_X7_lay, ini_RX7, ⟨by decide +kernel, by decide +kernel⟩, by decide +kernel, by decide⟩
theorem in_X7_lay : Cond.instanceMethod yX7_lay ∈ pm_gw := pm_gw_of 1107 (by decide +kernel) rfl
theorem se_X7_lay : Cond.selects RX7 yX7_lay yX7_lay ∈ pm_gw := pm_gw_of 1108 (by decide +kernel) rfl
theorem mok_X7_judge : pm_mok mX7_judge 2 := ⟨co_X7_judge, ini_RX7, ⟨by decide +kernel, by decide +kernel⟩, by decide +kernel, by decide⟩
theorem in_X7_judge : Cond.instanceMethod yX7_judge ∈ pm_gw := pm_gw_of 1111 (by decide +kernel) rfl
theorem se_X7_judge : Cond.selects RX7 yX7_judge yX7_judge ∈ pm_gw := pm_gw_of 1112 (by decide +kernel) rfl
theorem mok_X7_image : pm_mok mX7_image 0 := ⟨co_X7_image, ini_RX7, ⟨by decide +kernel, by decide +kernel⟩, by decide +kernel, by decide⟩
theorem in_X7_image : Cond.instanceMethod yX7_image ∈ pm_gw := pm_gw_of 1115 (by decide +kernel) rfl
theorem se_X7_image : Cond.selects RX7 yX7_image yX7_image ∈ pm_gw := pm_gw_of 1116 (by decide +kernel) rfl
theorem mok_X7_undo : pm_mok mX7_undo 0 := ⟨co_X7_undo, ini_RX7, ⟨by decide +kernel, by decide +kernel⟩, by decide +kernel, by decide⟩
theorem in_X7_undo : Cond.instanceMethod yX7_undo ∈ pm_gw := pm_gw_of 1119 (by decide +kernel) rfl
theorem se_X7_undo : Cond.selects RX7 yX7_undo yX7_undo ∈ pm_gw := pm_gw_of 1120 (by decide +kernel) rfl
theorem ins_RX6 : Cond.instantiable RX6 7 ∈ pm_gw := pm_gw_of 48 (by decide +kernel) rfl
theorem ins_RX0 : Cond.instantiable RX0 11 ∈ pm_gw := pm_gw_of 56 (by decide +kernel) rfl
theorem ins_RX5 : Cond.instantiable RX5 4 ∈ pm_gw := pm_gw_of 62 (by decide +kernel) rfl
theorem ins_RX4 : Cond.instantiable RX4 7 ∈ pm_gw := pm_gw_of 71 (by decide +kernel) rfl
theorem ins_RX1 : Cond.instantiable RX1 5 ∈ pm_gw := pm_gw_of 113 (by decide +kernel) rfl
theorem ins_RX3 : Cond.instantiable RX3 2 ∈ pm_gw := pm_gw_of 198 (by decide +kernel) rfl
theorem ins_RX2 : Cond.instantiable RX2 3 ∈ pm_gw := pm_gw_of 214 (by decide +kernel) rfl
theorem ins_RX7 : Cond.instantiable RX7 29 ∈ pm_gw := pm_gw_of 755 (by decide +kernel) rfl
theorem arc_int : Cond.arrayClass .int ∈ pm_gw := pm_gw_of 108 (by decide +kernel) rfl
theorem arc_long : Cond.arrayClass .long ∈ pm_gw := pm_gw_of 231 (by decide +kernel) rfl
theorem arc_boolean : Cond.arrayClass .boolean ∈ pm_gw := pm_gw_of 848 (by decide +kernel) rfl
theorem aro_RX1 : Cond.arrayOver (.object RX1) ∈ lw_tbl := List.mem_of_getElem? (i := 68) (by decide +kernel)
theorem aro_RX4 : Cond.arrayOver (.object RX4) ∈ lw_tbl := List.mem_of_getElem? (i := 70) (by decide +kernel)
theorem aro_RX2 : Cond.arrayOver (.object RX2) ∈ lw_tbl := List.mem_of_getElem? (i := 213) (by decide +kernel)
theorem lk_X6_5 : Cond.methodLink RX6 5 objectInit ∈ pm_gw := pm_gw_of 52 (by decide +kernel) rfl
theorem cl_X6_11 : Cond.classLink RX6 11 RX0 ∈ pm_gw := pm_gw_of 55 (by decide +kernel) rfl
theorem lk_X6_13 : pm_lkN RX6 13 yX0_init := ⟨"BuildEngine", List.mem_of_getElem? (i := 57) (by decide +kernel)⟩
theorem fk_X6_14 : Cond.fieldLink RX6 14 RX6 (TX6 0).2.1 (TX6 0).2.2.1 ∈ pm_gw := pm_gw_of 232 (by decide +kernel) rfl
theorem fl_X6_14 : pm_fl RX6 14 6 0 := ⟨(RX6, TX6, 7), rfl, by decide, rfl, fk_X6_14⟩
theorem fp_X6_14 : pm_fp RX6 14 6 0 true (.object "BuildEngine$Builder") := ⟨(RX6, TX6, 7), rfl, by decide, rfl, fk_X6_14, rfl, by decide +kernel⟩
theorem fk_X6_18 : Cond.fieldLink RX6 18 RX6 (TX6 1).2.1 (TX6 1).2.2.1 ∈ pm_gw := pm_gw_of 233 (by decide +kernel) rfl
theorem fl_X6_18 : pm_fl RX6 18 6 1 := ⟨(RX6, TX6, 7), rfl, by decide, rfl, fk_X6_18⟩
theorem fp_X6_18 : pm_fp RX6 18 6 1 true (.object "BuildEngine$Builder") := ⟨(RX6, TX6, 7), rfl, by decide, rfl, fk_X6_18, rfl, by decide +kernel⟩
theorem fk_X6_21 : Cond.fieldLink RX6 21 RX0 (TX0 0).2.1 (TX0 0).2.2.1 ∈ pm_gw := pm_gw_of 155 (by decide +kernel) rfl
theorem fl_X6_21 : pm_fl RX6 21 0 0 := ⟨(RX0, TX0, 11), rfl, by decide, rfl, fk_X6_21⟩
theorem fk_X6_25 : Cond.fieldLink RX6 25 RX6 (TX6 2).2.1 (TX6 2).2.2.1 ∈ pm_gw := pm_gw_of 234 (by decide +kernel) rfl
theorem fl_X6_25 : pm_fl RX6 25 6 2 := ⟨(RX6, TX6, 7), rfl, by decide, rfl, fk_X6_25⟩
theorem fp_X6_25 : pm_fp RX6 25 6 2 true (.object "BuildEngine$World") := ⟨(RX6, TX6, 7), rfl, by decide, rfl, fk_X6_25, rfl, by decide +kernel⟩
theorem cl_X6_26 : Cond.classLink RX6 26 RX5 ∈ pm_gw := pm_gw_of 195 (by decide +kernel) rfl
theorem lk_X6_28 : Cond.methodLink RX6 28 yX5_init ∈ pm_gw := pm_gw_of 196 (by decide +kernel) rfl
theorem fk_X6_29 : Cond.fieldLink RX6 29 RX6 (TX6 3).2.1 (TX6 3).2.2.1 ∈ pm_gw := pm_gw_of 235 (by decide +kernel) rfl
theorem fl_X6_29 : pm_fl RX6 29 6 3 := ⟨(RX6, TX6, 7), rfl, by decide, rfl, fk_X6_29⟩
theorem fp_X6_29 : pm_fp RX6 29 6 3 true (.object "BuildEngine$World") := ⟨(RX6, TX6, 7), rfl, by decide, rfl, fk_X6_29, rfl, by decide +kernel⟩
theorem cl_X6_32 : Cond.classLink RX6 32 RX3 ∈ pm_gw := pm_gw_of 197 (by decide +kernel) rfl
theorem lk_X6_34 : pm_lkN RX6 34 yX3_init := ⟨"BuildEngine", List.mem_of_getElem? (i := 199) (by decide +kernel)⟩
theorem fk_X6_35 : Cond.fieldLink RX6 35 RX6 (TX6 4).2.1 (TX6 4).2.2.1 ∈ pm_gw := pm_gw_of 236 (by decide +kernel) rfl
theorem fl_X6_35 : pm_fl RX6 35 6 4 := ⟨(RX6, TX6, 7), rfl, by decide, rfl, fk_X6_35⟩
theorem fp_X6_35 : pm_fp RX6 35 6 4 true (.object "BuildEngine$Tape") := ⟨(RX6, TX6, 7), rfl, by decide, rfl, fk_X6_35, rfl, by decide +kernel⟩
theorem cl_X6_39 : Cond.classLink RX6 39 RX2 ∈ pm_gw := pm_gw_of 212 (by decide +kernel) rfl
theorem fk_X6_41 : Cond.fieldLink RX6 41 RX6 (TX6 5).2.1 (TX6 5).2.2.1 ∈ pm_gw := pm_gw_of 237 (by decide +kernel) rfl
theorem fl_X6_41 : pm_fl RX6 41 6 5 := ⟨(RX6, TX6, 7), rfl, by decide, rfl, fk_X6_41⟩
theorem fp_X6_41 : pm_fp RX6 41 6 5 true (.array (.object "BuildEngine$Row")) := ⟨(RX6, TX6, 7), rfl, by decide, rfl, fk_X6_41, rfl, by decide +kernel⟩
theorem lk_X6_45 : pm_lkN RX6 45 yX2_init := ⟨"BuildEngine", List.mem_of_getElem? (i := 215) (by decide +kernel)⟩
theorem lk_X6_46 : Cond.methodLink RX6 46 yX6_isInput ∈ pm_gw := pm_gw_of 258 (by decide +kernel) rfl
theorem lk_X6_50 : Cond.methodLink RX6 50 yX6_isContent ∈ pm_gw := pm_gw_of 261 (by decide +kernel) rfl
theorem lk_X6_54 : Cond.methodLink RX6 54 yX5_giveContent ∈ pm_gw := pm_gw_of 266 (by decide +kernel) rfl
theorem lk_X6_58 : Cond.methodLink RX6 58 yX5_contentOf ∈ pm_gw := pm_gw_of 282 (by decide +kernel) rfl
theorem lk_X6_62 : Cond.methodLink RX6 62 yX5_takeContent ∈ pm_gw := pm_gw_of 283 (by decide +kernel) rfl
theorem fk_X6_66 : Cond.fieldLink RX6 66 RX1 (TX1 0).2.1 (TX1 0).2.2.1 ∈ pm_gw := pm_gw_of 119 (by decide +kernel) rfl
theorem fl_X6_66 : pm_fl RX6 66 1 0 := ⟨(RX1, TX1, 5), rfl, by decide, rfl, fk_X6_66⟩
theorem lk_X6_72 : Cond.methodLink RX6 72 yX3_append ∈ pm_gw := pm_gw_of 291 (by decide +kernel) rfl
theorem fk_X6_75 : Cond.fieldLink RX6 75 RX3 (TX3 1).2.1 (TX3 1).2.2.1 ∈ pm_gw := pm_gw_of 206 (by decide +kernel) rfl
theorem fl_X6_75 : pm_fl RX6 75 3 1 := ⟨(RX3, TX3, 2), rfl, by decide, rfl, fk_X6_75⟩
theorem lk_X6_78 : Cond.methodLink RX6 78 yX3_empty ∈ pm_gw := pm_gw_of 299 (by decide +kernel) rfl
theorem lk_X6_82 : Cond.methodLink RX6 82 yX5_targetOf ∈ pm_gw := pm_gw_of 307 (by decide +kernel) rfl
theorem lk_X6_86 : Cond.methodLink RX6 86 yX3_faultAsRule ∈ pm_gw := pm_gw_of 314 (by decide +kernel) rfl
theorem lk_X6_89 : Cond.methodLink RX6 89 yX4_readRule ∈ pm_gw := pm_gw_of 343 (by decide +kernel) rfl
theorem fk_X6_95 : Cond.fieldLink RX6 95 RX4 (TX4 0).2.1 (TX4 0).2.2.1 ∈ pm_gw := pm_gw_of 78 (by decide +kernel) rfl
theorem fl_X6_95 : pm_fl RX6 95 4 0 := ⟨(RX4, TX4, 7), rfl, by decide, rfl, fk_X6_95⟩
theorem lk_X6_98 : Cond.methodLink RX6 98 yX4_dropRule ∈ pm_gw := pm_gw_of 360 (by decide +kernel) rfl
theorem lk_X6_101 : Cond.methodLink RX6 101 yX4_takeRule ∈ pm_gw := pm_gw_of 368 (by decide +kernel) rfl
theorem lk_X6_105 : Cond.methodLink RX6 105 yX4_signAt ∈ pm_gw := pm_gw_of 383 (by decide +kernel) rfl
theorem lk_X6_109 : Cond.methodLink RX6 109 yX4_figuresAt ∈ pm_gw := pm_gw_of 387 (by decide +kernel) rfl
theorem lk_X6_112 : Cond.methodLink RX6 112 yX6_isTarget ∈ pm_gw := pm_gw_of 395 (by decide +kernel) rfl
theorem lk_X6_115 : Cond.methodLink RX6 115 yX0_startsFor ∈ pm_gw := pm_gw_of 396 (by decide +kernel) rfl
theorem lk_X6_118 : Cond.methodLink RX6 118 yX6_isStops ∈ pm_gw := pm_gw_of 513 (by decide +kernel) rfl
theorem kc_X6_121 : Cond.constant RX6 121 (65535) ∈ pm_gw := pm_gw_of 516 (by decide +kernel) rfl
theorem lk_X6_122 : Cond.methodLink RX6 122 yX0_buildEach ∈ pm_gw := pm_gw_of 517 (by decide +kernel) rfl
theorem lk_X6_126 : Cond.methodLink RX6 126 yX5_copyFrom ∈ pm_gw := pm_gw_of 526 (by decide +kernel) rfl
theorem lk_X6_130 : Cond.methodLink RX6 130 yX6_isKey ∈ pm_gw := pm_gw_of 538 (by decide +kernel) rfl
theorem lk_X6_133 : Cond.methodLink RX6 133 yX5_toldResult ∈ pm_gw := pm_gw_of 539 (by decide +kernel) rfl
theorem lk_X6_136 : Cond.methodLink RX6 136 yX5_failureOf ∈ pm_gw := pm_gw_of 554 (by decide +kernel) rfl
theorem fk_X6_139 : Cond.fieldLink RX6 139 RX1 (TX1 4).2.1 (TX1 4).2.2.1 ∈ pm_gw := pm_gw_of 129 (by decide +kernel) rfl
theorem fl_X6_139 : pm_fl RX6 139 1 4 := ⟨(RX1, TX1, 5), rfl, by decide, rfl, fk_X6_139⟩
theorem fk_X6_143 : Cond.fieldLink RX6 143 RX1 (TX1 1).2.1 (TX1 1).2.2.1 ∈ pm_gw := pm_gw_of 123 (by decide +kernel) rfl
theorem fl_X6_143 : pm_fl RX6 143 1 1 := ⟨(RX1, TX1, 5), rfl, by decide, rfl, fk_X6_143⟩
theorem fk_X6_146 : Cond.fieldLink RX6 146 RX1 (TX1 2).2.1 (TX1 2).2.2.1 ∈ pm_gw := pm_gw_of 125 (by decide +kernel) rfl
theorem fl_X6_146 : pm_fl RX6 146 1 2 := ⟨(RX1, TX1, 5), rfl, by decide, rfl, fk_X6_146⟩
theorem fk_X6_149 : Cond.fieldLink RX6 149 RX1 (TX1 3).2.1 (TX1 3).2.2.1 ∈ pm_gw := pm_gw_of 127 (by decide +kernel) rfl
theorem fl_X6_149 : pm_fl RX6 149 1 3 := ⟨(RX1, TX1, 5), rfl, by decide, rfl, fk_X6_149⟩
theorem lk_X6_152 : Cond.methodLink RX6 152 yX1_causeCount ∈ pm_gw := pm_gw_of 559 (by decide +kernel) rfl
theorem lk_X6_155 : Cond.methodLink RX6 155 yX1_rootKey ∈ pm_gw := pm_gw_of 567 (by decide +kernel) rfl
theorem lk_X6_158 : Cond.methodLink RX6 158 yX5_targetsFailingBy ∈ pm_gw := pm_gw_of 575 (by decide +kernel) rfl
theorem lk_X6_161 : Cond.methodLink RX6 161 yX4_hasTrace ∈ pm_gw := pm_gw_of 588 (by decide +kernel) rfl
theorem fk_X6_165 : Cond.fieldLink RX6 165 RX4 (TX4 4).2.1 (TX4 4).2.2.1 ∈ pm_gw := pm_gw_of 90 (by decide +kernel) rfl
theorem fl_X6_165 : pm_fl RX6 165 4 4 := ⟨(RX4, TX4, 7), rfl, by decide, rfl, fk_X6_165⟩
theorem lk_X6_168 : Cond.methodLink RX6 168 yX4_tracedKey ∈ pm_gw := pm_gw_of 589 (by decide +kernel) rfl
theorem lk_X6_171 : Cond.methodLink RX6 171 yX4_tracedResult ∈ pm_gw := pm_gw_of 594 (by decide +kernel) rfl
theorem lk_X6_174 : Cond.methodLink RX6 174 yX1_asTold ∈ pm_gw := pm_gw_of 595 (by decide +kernel) rfl
theorem lk_X6_177 : Cond.methodLink RX6 177 yX5_targetsTracing ∈ pm_gw := pm_gw_of 600 (by decide +kernel) rfl
theorem lk_X6_180 : Cond.methodLink RX6 180 yX5_depthOf ∈ pm_gw := pm_gw_of 609 (by decide +kernel) rfl
theorem lk_X6_183 : Cond.methodLink RX6 183 yX0_doneAt ∈ pm_gw := pm_gw_of 632 (by decide +kernel) rfl
theorem lk_X6_186 : Cond.methodLink RX6 186 yX5_unlikeResults ∈ pm_gw := pm_gw_of 640 (by decide +kernel) rfl
theorem lk_X6_189 : Cond.methodLink RX6 189 yX5_targetsUpToDate ∈ pm_gw := pm_gw_of 653 (by decide +kernel) rfl
theorem fk_X6_192 : Cond.fieldLink RX6 192 RX4 (TX4 3).2.1 (TX4 3).2.2.1 ∈ pm_gw := pm_gw_of 86 (by decide +kernel) rfl
theorem fl_X6_192 : pm_fl RX6 192 4 3 := ⟨(RX4, TX4, 7), rfl, by decide, rfl, fk_X6_192⟩
theorem fp_X6_192 : pm_fp RX6 192 4 3 false (.object "BuildEngine$Result") := ⟨(RX4, TX4, 7), rfl, by decide, rfl, fk_X6_192, rfl, by decide +kernel⟩
theorem lk_X6_195 : Cond.methodLink RX6 195 yX4_dropTrace ∈ pm_gw := pm_gw_of 667 (by decide +kernel) rfl
theorem fk_X6_198 : Cond.fieldLink RX6 198 RX0 (TX0 6).2.1 (TX0 6).2.2.1 ∈ pm_gw := pm_gw_of 164 (by decide +kernel) rfl
theorem fl_X6_198 : pm_fl RX6 198 0 6 := ⟨(RX0, TX0, 11), rfl, by decide, rfl, fk_X6_198⟩
theorem fk_X6_201 : Cond.fieldLink RX6 201 RX0 (TX0 7).2.1 (TX0 7).2.2.1 ∈ pm_gw := pm_gw_of 166 (by decide +kernel) rfl
theorem fl_X6_201 : pm_fl RX6 201 0 7 := ⟨(RX0, TX0, 11), rfl, by decide, rfl, fk_X6_201⟩
theorem fk_X6_204 : Cond.fieldLink RX6 204 RX0 (TX0 8).2.1 (TX0 8).2.2.1 ∈ pm_gw := pm_gw_of 168 (by decide +kernel) rfl
theorem fl_X6_204 : pm_fl RX6 204 0 8 := ⟨(RX0, TX0, 11), rfl, by decide, rfl, fk_X6_204⟩
theorem fk_X6_207 : Cond.fieldLink RX6 207 RX0 (TX0 9).2.1 (TX0 9).2.2.1 ∈ pm_gw := pm_gw_of 170 (by decide +kernel) rfl
theorem fl_X6_207 : pm_fl RX6 207 0 9 := ⟨(RX0, TX0, 11), rfl, by decide, rfl, fk_X6_207⟩
theorem lk_X6_210 : Cond.methodLink RX6 210 yX5_ruleCount ∈ pm_gw := pm_gw_of 672 (by decide +kernel) rfl
theorem lk_X6_213 : Cond.methodLink RX6 213 yX5_resultCount ∈ pm_gw := pm_gw_of 676 (by decide +kernel) rfl
theorem lk_X6_216 : Cond.methodLink RX6 216 yX5_failureCount ∈ pm_gw := pm_gw_of 680 (by decide +kernel) rfl
theorem lk_X6_219 : Cond.methodLink RX6 219 yX5_traceCount ∈ pm_gw := pm_gw_of 684 (by decide +kernel) rfl
theorem fk_X6_222 : Cond.fieldLink RX6 222 RX0 (TX0 2).2.1 (TX0 2).2.2.1 ∈ pm_gw := pm_gw_of 158 (by decide +kernel) rfl
theorem fl_X6_222 : pm_fl RX6 222 0 2 := ⟨(RX0, TX0, 11), rfl, by decide, rfl, fk_X6_222⟩
theorem fk_X6_225 : Cond.fieldLink RX6 225 RX0 (TX0 5).2.1 (TX0 5).2.2.1 ∈ pm_gw := pm_gw_of 162 (by decide +kernel) rfl
theorem fl_X6_225 : pm_fl RX6 225 0 5 := ⟨(RX0, TX0, 11), rfl, by decide, rfl, fk_X6_225⟩
theorem lk_X6_228 : Cond.methodLink RX6 228 yX6_rowOf ∈ pm_gw := pm_gw_of 692 (by decide +kernel) rfl
theorem lk_X6_232 : Cond.methodLink RX6 232 yX2_hold ∈ pm_gw := pm_gw_of 696 (by decide +kernel) rfl
theorem fk_X6_235 : Cond.fieldLink RX6 235 RX2 (TX2 0).2.1 (TX2 0).2.2.1 ∈ pm_gw := pm_gw_of 220 (by decide +kernel) rfl
theorem fl_X6_235 : pm_fl RX6 235 2 0 := ⟨(RX2, TX2, 3), rfl, by decide, rfl, fk_X6_235⟩
theorem lk_X6_239 : Cond.methodLink RX6 239 yX2_write ∈ pm_gw := pm_gw_of 709 (by decide +kernel) rfl
theorem kc_X6_243 : Cond.constantLong RX6 243 (-9223372036854775808) ∈ pm_gw := pm_gw_of 721 (by decide +kernel) rfl
theorem lk_X6_245 : Cond.methodLink RX6 245 yX2_read ∈ pm_gw := pm_gw_of 722 (by decide +kernel) rfl
theorem lk_X6_249 : Cond.methodLink RX6 249 yX2_hasSpan ∈ pm_gw := pm_gw_of 731 (by decide +kernel) rfl
theorem fk_X6_252 : Cond.fieldLink RX6 252 RX2 (TX2 1).2.1 (TX2 1).2.2.1 ∈ pm_gw := pm_gw_of 222 (by decide +kernel) rfl
theorem fl_X6_252 : pm_fl RX6 252 2 1 := ⟨(RX2, TX2, 3), rfl, by decide, rfl, fk_X6_252⟩
theorem lk_X6_256 : Cond.methodLink RX6 256 arraycopyName ∈ pm_gw := pm_gw_of 735 (by decide +kernel) rfl
theorem lk_X6_262 : Cond.methodLink RX6 262 yX2_hasPlace ∈ pm_gw := pm_gw_of 744 (by decide +kernel) rfl
theorem fk_X6_265 : Cond.fieldLink RX6 265 RX6 (TX6 6).2.1 (TX6 6).2.2.1 ∈ pm_gw := pm_gw_of 238 (by decide +kernel) rfl
theorem fl_X6_265 : pm_fl RX6 265 6 6 := ⟨(RX6, TX6, 7), rfl, by decide, rfl, fk_X6_265⟩
theorem fp_X6_265 : pm_fp RX6 265 6 6 false .boolean := ⟨(RX6, TX6, 7), rfl, by decide, rfl, fk_X6_265, rfl, by decide +kernel⟩
theorem lk_X6_268 : Cond.methodLink RX6 268 yX0_forgetBuild ∈ pm_gw := pm_gw_of 753 (by decide +kernel) rfl
theorem kc_X6_271 : Cond.constantLong RX6 271 (-1000000) ∈ pm_gw := pm_gw_of 264 (by decide +kernel) rfl
theorem kc_X6_273 : Cond.constantLong RX6 273 (1000000) ∈ pm_gw := pm_gw_of 265 (by decide +kernel) rfl
theorem lk_X6_275 : Cond.methodLink RX6 275 yX6_asksForKey ∈ pm_gw := pm_gw_of 325 (by decide +kernel) rfl
theorem lk_X0_3 : Cond.methodLink RX0 3 objectInit ∈ pm_gw := pm_gw_of 60 (by decide +kernel) rfl
theorem cl_X0_9 : Cond.classLink RX0 9 RX5 ∈ pm_gw := pm_gw_of 61 (by decide +kernel) rfl
theorem lk_X0_11 : Cond.methodLink RX0 11 yX5_init ∈ pm_gw := pm_gw_of 63 (by decide +kernel) rfl
theorem fk_X0_12 : Cond.fieldLink RX0 12 RX0 (TX0 0).2.1 (TX0 0).2.2.1 ∈ pm_gw := pm_gw_of 154 (by decide +kernel) rfl
theorem fl_X0_12 : pm_fl RX0 12 0 0 := ⟨(RX0, TX0, 11), rfl, by decide, rfl, fk_X0_12⟩
theorem fp_X0_12 : pm_fp RX0 12 0 0 true (.object "BuildEngine$World") := ⟨(RX0, TX0, 11), rfl, by decide, rfl, fk_X0_12, rfl, by decide +kernel⟩
theorem fk_X0_18 : Cond.fieldLink RX0 18 RX0 (TX0 1).2.1 (TX0 1).2.2.1 ∈ pm_gw := pm_gw_of 156 (by decide +kernel) rfl
theorem fl_X0_18 : pm_fl RX0 18 0 1 := ⟨(RX0, TX0, 11), rfl, by decide, rfl, fk_X0_18⟩
theorem fp_X0_18 : pm_fp RX0 18 0 1 true (.array .int) := ⟨(RX0, TX0, 11), rfl, by decide, rfl, fk_X0_18, rfl, by decide +kernel⟩
theorem fk_X0_22 : Cond.fieldLink RX0 22 RX0 (TX0 5).2.1 (TX0 5).2.2.1 ∈ pm_gw := pm_gw_of 161 (by decide +kernel) rfl
theorem fl_X0_22 : pm_fl RX0 22 0 5 := ⟨(RX0, TX0, 11), rfl, by decide, rfl, fk_X0_22⟩
theorem fp_X0_22 : pm_fp RX0 22 0 5 false .int := ⟨(RX0, TX0, 11), rfl, by decide, rfl, fk_X0_22, rfl, by decide +kernel⟩
theorem fk_X0_26 : Cond.fieldLink RX0 26 RX0 (TX0 2).2.1 (TX0 2).2.2.1 ∈ pm_gw := pm_gw_of 157 (by decide +kernel) rfl
theorem fl_X0_26 : pm_fl RX0 26 0 2 := ⟨(RX0, TX0, 11), rfl, by decide, rfl, fk_X0_26⟩
theorem fp_X0_26 : pm_fp RX0 26 0 2 false .int := ⟨(RX0, TX0, 11), rfl, by decide, rfl, fk_X0_26, rfl, by decide +kernel⟩
theorem fk_X0_29 : Cond.fieldLink RX0 29 RX0 (TX0 3).2.1 (TX0 3).2.2.1 ∈ pm_gw := pm_gw_of 159 (by decide +kernel) rfl
theorem fl_X0_29 : pm_fl RX0 29 0 3 := ⟨(RX0, TX0, 11), rfl, by decide, rfl, fk_X0_29⟩
theorem fp_X0_29 : pm_fp RX0 29 0 3 false .int := ⟨(RX0, TX0, 11), rfl, by decide, rfl, fk_X0_29, rfl, by decide +kernel⟩
theorem fk_X0_32 : Cond.fieldLink RX0 32 RX0 (TX0 4).2.1 (TX0 4).2.2.1 ∈ pm_gw := pm_gw_of 160 (by decide +kernel) rfl
theorem fl_X0_32 : pm_fl RX0 32 0 4 := ⟨(RX0, TX0, 11), rfl, by decide, rfl, fk_X0_32⟩
theorem fp_X0_32 : pm_fp RX0 32 0 4 false .int := ⟨(RX0, TX0, 11), rfl, by decide, rfl, fk_X0_32, rfl, by decide +kernel⟩
theorem fk_X0_35 : Cond.fieldLink RX0 35 RX0 (TX0 6).2.1 (TX0 6).2.2.1 ∈ pm_gw := pm_gw_of 163 (by decide +kernel) rfl
theorem fl_X0_35 : pm_fl RX0 35 0 6 := ⟨(RX0, TX0, 11), rfl, by decide, rfl, fk_X0_35⟩
theorem fp_X0_35 : pm_fp RX0 35 0 6 false .int := ⟨(RX0, TX0, 11), rfl, by decide, rfl, fk_X0_35, rfl, by decide +kernel⟩
theorem lk_X0_38 : Cond.methodLink RX0 38 yX0_bitOf ∈ pm_gw := pm_gw_of 400 (by decide +kernel) rfl
theorem lk_X0_42 : Cond.methodLink RX0 42 yX0_buildEach ∈ pm_gw := pm_gw_of 404 (by decide +kernel) rfl
theorem lk_X0_46 : Cond.methodLink RX0 46 yX0_forgetBuild ∈ pm_gw := pm_gw_of 408 (by decide +kernel) rfl
theorem lk_X0_49 : Cond.methodLink RX0 49 yX0_isIn ∈ pm_gw := pm_gw_of 412 (by decide +kernel) rfl
theorem lk_X0_53 : Cond.methodLink RX0 53 yX0_buildTarget ∈ pm_gw := pm_gw_of 415 (by decide +kernel) rfl
theorem lk_X0_57 : Cond.methodLink RX0 57 yX5_failureOf ∈ pm_gw := pm_gw_of 503 (by decide +kernel) rfl
theorem lk_X0_61 : Cond.methodLink RX0 61 yX5_targetOf ∈ pm_gw := pm_gw_of 419 (by decide +kernel) rfl
theorem fk_X0_65 : Cond.fieldLink RX0 65 RX4 (TX4 0).2.1 (TX4 0).2.2.1 ∈ pm_gw := pm_gw_of 79 (by decide +kernel) rfl
theorem fl_X0_65 : pm_fl RX0 65 4 0 := ⟨(RX4, TX4, 7), rfl, by decide, rfl, fk_X0_65⟩
theorem lk_X0_70 : Cond.methodLink RX0 70 yX5_emptyOf ∈ pm_gw := pm_gw_of 420 (by decide +kernel) rfl
theorem fk_X0_73 : Cond.fieldLink RX0 73 RX4 (TX4 3).2.1 (TX4 3).2.2.1 ∈ pm_gw := pm_gw_of 83 (by decide +kernel) rfl
theorem fl_X0_73 : pm_fl RX0 73 4 3 := ⟨(RX4, TX4, 7), rfl, by decide, rfl, fk_X0_73⟩
theorem fp_X0_73 : pm_fp RX0 73 4 3 false (.object "BuildEngine$Result") := ⟨(RX4, TX4, 7), rfl, by decide, rfl, fk_X0_73, rfl, by decide +kernel⟩
theorem lk_X0_77 : Cond.methodLink RX0 77 yX0_isStillSame ∈ pm_gw := pm_gw_of 425 (by decide +kernel) rfl
theorem fk_X0_81 : Cond.fieldLink RX0 81 RX0 (TX0 8).2.1 (TX0 8).2.2.1 ∈ pm_gw := pm_gw_of 167 (by decide +kernel) rfl
theorem fl_X0_81 : pm_fl RX0 81 0 8 := ⟨(RX0, TX0, 11), rfl, by decide, rfl, fk_X0_81⟩
theorem fp_X0_81 : pm_fp RX0 81 0 8 false .int := ⟨(RX0, TX0, 11), rfl, by decide, rfl, fk_X0_81, rfl, by decide +kernel⟩
theorem lk_X0_84 : Cond.methodLink RX0 84 yX0_runToEnd ∈ pm_gw := pm_gw_of 450 (by decide +kernel) rfl
theorem lk_X0_88 : Cond.methodLink RX0 88 yX0_noteDone ∈ pm_gw := pm_gw_of 499 (by decide +kernel) rfl
theorem lk_X0_92 : Cond.methodLink RX0 92 yX4_hasTrace ∈ pm_gw := pm_gw_of 429 (by decide +kernel) rfl
theorem fk_X0_96 : Cond.fieldLink RX0 96 RX4 (TX4 4).2.1 (TX4 4).2.2.1 ∈ pm_gw := pm_gw_of 88 (by decide +kernel) rfl
theorem fl_X0_96 : pm_fl RX0 96 4 4 := ⟨(RX4, TX4, 7), rfl, by decide, rfl, fk_X0_96⟩
theorem lk_X0_99 : Cond.methodLink RX0 99 yX4_tracedKey ∈ pm_gw := pm_gw_of 433 (by decide +kernel) rfl
theorem lk_X0_102 : Cond.methodLink RX0 102 yX5_resultOf ∈ pm_gw := pm_gw_of 437 (by decide +kernel) rfl
theorem lk_X0_105 : Cond.methodLink RX0 105 yX4_tracedResult ∈ pm_gw := pm_gw_of 443 (by decide +kernel) rfl
theorem lk_X0_108 : Cond.methodLink RX0 108 yX1_areSame ∈ pm_gw := pm_gw_of 447 (by decide +kernel) rfl
theorem lk_X0_114 : Cond.methodLink RX0 114 yX0_runOnce ∈ pm_gw := pm_gw_of 454 (by decide +kernel) rfl
theorem fk_X0_118 : Cond.fieldLink RX0 118 RX0 (TX0 7).2.1 (TX0 7).2.2.1 ∈ pm_gw := pm_gw_of 165 (by decide +kernel) rfl
theorem fl_X0_118 : pm_fl RX0 118 0 7 := ⟨(RX0, TX0, 11), rfl, by decide, rfl, fk_X0_118⟩
theorem fp_X0_118 : pm_fp RX0 118 0 7 false .int := ⟨(RX0, TX0, 11), rfl, by decide, rfl, fk_X0_118, rfl, by decide +kernel⟩
theorem fk_X0_121 : Cond.fieldLink RX0 121 RX0 (TX0 10).2.1 (TX0 10).2.2.1 ∈ pm_gw := pm_gw_of 171 (by decide +kernel) rfl
theorem fl_X0_121 : pm_fl RX0 121 0 10 := ⟨(RX0, TX0, 11), rfl, by decide, rfl, fk_X0_121⟩
theorem fp_X0_121 : pm_fp RX0 121 0 10 false .int := ⟨(RX0, TX0, 11), rfl, by decide, rfl, fk_X0_121, rfl, by decide +kernel⟩
theorem fk_X0_124 : Cond.fieldLink RX0 124 RX0 (TX0 9).2.1 (TX0 9).2.2.1 ∈ pm_gw := pm_gw_of 169 (by decide +kernel) rfl
theorem fl_X0_124 : pm_fl RX0 124 0 9 := ⟨(RX0, TX0, 11), rfl, by decide, rfl, fk_X0_124⟩
theorem fp_X0_124 : pm_fp RX0 124 0 9 false .int := ⟨(RX0, TX0, 11), rfl, by decide, rfl, fk_X0_124, rfl, by decide +kernel⟩
theorem lk_X0_127 : Cond.methodLink RX0 127 yX1_isOrComesOfSort ∈ pm_gw := pm_gw_of 494 (by decide +kernel) rfl
theorem lk_X0_131 : Cond.methodLink RX0 131 yX4_dropTrace ∈ pm_gw := pm_gw_of 498 (by decide +kernel) rfl
theorem lk_X0_134 : Cond.methodLink RX0 134 yX4_startTrace ∈ pm_gw := pm_gw_of 458 (by decide +kernel) rfl
theorem lk_X0_137 : Cond.methodLink RX0 137 yX4_signAt ∈ pm_gw := pm_gw_of 462 (by decide +kernel) rfl
theorem lk_X0_140 : Cond.methodLink RX0 140 yX4_figuresAt ∈ pm_gw := pm_gw_of 463 (by decide +kernel) rfl
theorem lk_X0_143 : pm_lkN RX0 143 yX6_asksForKey := ⟨"BuildEngine", List.mem_of_getElem? (i := 464) (by decide +kernel)⟩
theorem lk_X0_146 : Cond.methodLink RX0 146 yX1_ofFailure ∈ pm_gw := pm_gw_of 465 (by decide +kernel) rfl
theorem lk_X0_150 : Cond.methodLink RX0 150 yX0_resultIfDone ∈ pm_gw := pm_gw_of 466 (by decide +kernel) rfl
theorem lk_X0_153 : Cond.methodLink RX0 153 yX4_noteInTrace ∈ pm_gw := pm_gw_of 470 (by decide +kernel) rfl
theorem lk_X0_157 : Cond.methodLink RX0 157 yX1_isFailure ∈ pm_gw := pm_gw_of 479 (by decide +kernel) rfl
theorem fk_X0_160 : Cond.fieldLink RX0 160 RX1 (TX1 0).2.1 (TX1 0).2.2.1 ∈ pm_gw := pm_gw_of 121 (by decide +kernel) rfl
theorem fl_X0_160 : pm_fl RX0 160 1 0 := ⟨(RX1, TX1, 5), rfl, by decide, rfl, fk_X0_160⟩
theorem lk_X0_163 : Cond.methodLink RX0 163 yX0_worked ∈ pm_gw := pm_gw_of 483 (by decide +kernel) rfl
theorem lk_X0_167 : Cond.methodLink RX0 167 yX0_failingSort ∈ pm_gw := pm_gw_of 486 (by decide +kernel) rfl
theorem lk_X0_171 : Cond.methodLink RX0 171 yX0_stepsToPass ∈ pm_gw := pm_gw_of 490 (by decide +kernel) rfl
theorem lk_X0_175 : Cond.methodLink RX0 175 yX1_ofContent ∈ pm_gw := pm_gw_of 493 (by decide +kernel) rfl
theorem lk_X0_178 : pm_lkN RX0 178 yX6_isTarget := ⟨"BuildEngine", List.mem_of_getElem? (i := 403) (by decide +kernel)⟩
theorem lk_X0_181 : pm_lkN RX0 181 yX6_isContent := ⟨"BuildEngine", List.mem_of_getElem? (i := 489) (by decide +kernel)⟩
theorem lk_X1_3 : Cond.methodLink RX1 3 objectInit ∈ pm_gw := pm_gw_of 117 (by decide +kernel) rfl
theorem fk_X1_9 : Cond.fieldLink RX1 9 RX1 (TX1 0).2.1 (TX1 0).2.2.1 ∈ pm_gw := pm_gw_of 118 (by decide +kernel) rfl
theorem fl_X1_9 : pm_fl RX1 9 1 0 := ⟨(RX1, TX1, 5), rfl, by decide, rfl, fk_X1_9⟩
theorem fp_X1_9 : pm_fp RX1 9 1 0 true .int := ⟨(RX1, TX1, 5), rfl, by decide, rfl, fk_X1_9, rfl, by decide +kernel⟩
theorem cl_X1_10 : Cond.classLink RX1 10 RX1 ∈ pm_gw := pm_gw_of 112 (by decide +kernel) rfl
theorem fk_X1_15 : Cond.fieldLink RX1 15 RX1 (TX1 1).2.1 (TX1 1).2.2.1 ∈ pm_gw := pm_gw_of 122 (by decide +kernel) rfl
theorem fl_X1_15 : pm_fl RX1 15 1 1 := ⟨(RX1, TX1, 5), rfl, by decide, rfl, fk_X1_15⟩
theorem fp_X1_15 : pm_fp RX1 15 1 1 true .int := ⟨(RX1, TX1, 5), rfl, by decide, rfl, fk_X1_15, rfl, by decide +kernel⟩
theorem fk_X1_18 : Cond.fieldLink RX1 18 RX1 (TX1 2).2.1 (TX1 2).2.2.1 ∈ pm_gw := pm_gw_of 124 (by decide +kernel) rfl
theorem fl_X1_18 : pm_fl RX1 18 1 2 := ⟨(RX1, TX1, 5), rfl, by decide, rfl, fk_X1_18⟩
theorem fp_X1_18 : pm_fp RX1 18 1 2 true .int := ⟨(RX1, TX1, 5), rfl, by decide, rfl, fk_X1_18, rfl, by decide +kernel⟩
theorem fk_X1_21 : Cond.fieldLink RX1 21 RX1 (TX1 3).2.1 (TX1 3).2.2.1 ∈ pm_gw := pm_gw_of 126 (by decide +kernel) rfl
theorem fl_X1_21 : pm_fl RX1 21 1 3 := ⟨(RX1, TX1, 5), rfl, by decide, rfl, fk_X1_21⟩
theorem fp_X1_21 : pm_fp RX1 21 1 3 true .int := ⟨(RX1, TX1, 5), rfl, by decide, rfl, fk_X1_21, rfl, by decide +kernel⟩
theorem fk_X1_24 : Cond.fieldLink RX1 24 RX1 (TX1 4).2.1 (TX1 4).2.2.1 ∈ pm_gw := pm_gw_of 128 (by decide +kernel) rfl
theorem fl_X1_24 : pm_fl RX1 24 1 4 := ⟨(RX1, TX1, 5), rfl, by decide, rfl, fk_X1_24⟩
theorem fp_X1_24 : pm_fp RX1 24 1 4 true (.object "BuildEngine$Result") := ⟨(RX1, TX1, 5), rfl, by decide, rfl, fk_X1_24, rfl, by decide +kernel⟩
theorem lk_X1_28 : Cond.methodLink RX1 28 yX1_init ∈ pm_gw := pm_gw_of 114 (by decide +kernel) rfl
theorem lk_X1_31 : Cond.methodLink RX1 31 yX1_isFailure ∈ pm_gw := pm_gw_of 548 (by decide +kernel) rfl
theorem kc_X1_35 : Cond.constant RX1 35 (10000000) ∈ pm_gw := pm_gw_of 549 (by decide +kernel) rfl
theorem lk_X2_3 : Cond.methodLink RX2 3 objectInit ∈ pm_gw := pm_gw_of 218 (by decide +kernel) rfl
theorem fk_X2_9 : Cond.fieldLink RX2 9 RX2 (TX2 1).2.1 (TX2 1).2.2.1 ∈ pm_gw := pm_gw_of 221 (by decide +kernel) rfl
theorem fl_X2_9 : pm_fl RX2 9 2 1 := ⟨(RX2, TX2, 3), rfl, by decide, rfl, fk_X2_9⟩
theorem fp_X2_9 : pm_fp RX2 9 2 1 true (.array .long) := ⟨(RX2, TX2, 3), rfl, by decide, rfl, fk_X2_9, rfl, by decide +kernel⟩
theorem fk_X2_15 : Cond.fieldLink RX2 15 RX2 (TX2 0).2.1 (TX2 0).2.2.1 ∈ pm_gw := pm_gw_of 219 (by decide +kernel) rfl
theorem fl_X2_15 : pm_fl RX2 15 2 0 := ⟨(RX2, TX2, 3), rfl, by decide, rfl, fk_X2_15⟩
theorem fp_X2_15 : pm_fp RX2 15 2 0 false .boolean := ⟨(RX2, TX2, 3), rfl, by decide, rfl, fk_X2_15, rfl, by decide +kernel⟩
theorem lk_X2_19 : Cond.methodLink RX2 19 yJ9_min_7cf53 ∈ pm_gw := pm_gw_of 700 (by decide +kernel) rfl
theorem lk_X2_25 : Cond.methodLink RX2 25 yJ9_max_7cf53 ∈ pm_gw := pm_gw_of 701 (by decide +kernel) rfl
theorem fk_X2_28 : Cond.fieldLink RX2 28 RX2 (TX2 2).2.1 (TX2 2).2.2.1 ∈ pm_gw := pm_gw_of 223 (by decide +kernel) rfl
theorem fl_X2_28 : pm_fl RX2 28 2 2 := ⟨(RX2, TX2, 3), rfl, by decide, rfl, fk_X2_28⟩
theorem fp_X2_28 : pm_fp RX2 28 2 2 false .int := ⟨(RX2, TX2, 3), rfl, by decide, rfl, fk_X2_28, rfl, by decide +kernel⟩
theorem lk_X2_32 : Cond.methodLink RX2 32 yJ7_fill_d0a16 ∈ pm_gw := pm_gw_of 702 (by decide +kernel) rfl
theorem lk_X2_38 : Cond.methodLink RX2 38 yX2_hasPlace ∈ pm_gw := pm_gw_of 713 (by decide +kernel) rfl
theorem kc_X2_42 : Cond.constantLong RX2 42 (-9223372036854775808) ∈ pm_gw := pm_gw_of 726 (by decide +kernel) rfl
theorem lk_X3_3 : Cond.methodLink RX3 3 objectInit ∈ pm_gw := pm_gw_of 202 (by decide +kernel) rfl
theorem fk_X3_9 : Cond.fieldLink RX3 9 RX3 (TX3 0).2.1 (TX3 0).2.2.1 ∈ pm_gw := pm_gw_of 203 (by decide +kernel) rfl
theorem fl_X3_9 : pm_fl RX3 9 3 0 := ⟨(RX3, TX3, 2), rfl, by decide, rfl, fk_X3_9⟩
theorem fp_X3_9 : pm_fp RX3 9 3 0 true (.array .int) := ⟨(RX3, TX3, 2), rfl, by decide, rfl, fk_X3_9, rfl, by decide +kernel⟩
theorem fk_X3_15 : Cond.fieldLink RX3 15 RX3 (TX3 1).2.1 (TX3 1).2.2.1 ∈ pm_gw := pm_gw_of 204 (by decide +kernel) rfl
theorem fl_X3_15 : pm_fl RX3 15 3 1 := ⟨(RX3, TX3, 2), rfl, by decide, rfl, fk_X3_15⟩
theorem fp_X3_15 : pm_fp RX3 15 3 1 false .int := ⟨(RX3, TX3, 2), rfl, by decide, rfl, fk_X3_15, rfl, by decide +kernel⟩
theorem lk_X3_19 : Cond.methodLink RX3 19 yX3_letterAt ∈ pm_gw := pm_gw_of 318 (by decide +kernel) rfl
theorem lk_X3_23 : pm_lkN RX3 23 yX6_isSign := ⟨"BuildEngine", List.mem_of_getElem? (i := 322) (by decide +kernel)⟩
theorem lk_X3_27 : pm_lkN RX3 27 yX6_isFigure := ⟨"BuildEngine", List.mem_of_getElem? (i := 328) (by decide +kernel)⟩
theorem lk_X3_30 : Cond.methodLink RX3 30 yX3_tellsNoKey ∈ pm_gw := pm_gw_of 331 (by decide +kernel) rfl
theorem lk_X3_34 : Cond.methodLink RX3 34 yX3_numberAt ∈ pm_gw := pm_gw_of 335 (by decide +kernel) rfl
theorem lk_X3_37 : pm_lkN RX3 37 yX6_asksForKey := ⟨"BuildEngine", List.mem_of_getElem? (i := 339) (by decide +kernel)⟩
theorem lk_X3_40 : pm_lkN RX3 40 yX6_isKey := ⟨"BuildEngine", List.mem_of_getElem? (i := 340) (by decide +kernel)⟩
theorem lk_X4_3 : Cond.methodLink RX4 3 objectInit ∈ pm_gw := pm_gw_of 75 (by decide +kernel) rfl
theorem fk_X4_9 : Cond.fieldLink RX4 9 RX4 (TX4 1).2.1 (TX4 1).2.2.1 ∈ pm_gw := pm_gw_of 81 (by decide +kernel) rfl
theorem fl_X4_9 : pm_fl RX4 9 4 1 := ⟨(RX4, TX4, 7), rfl, by decide, rfl, fk_X4_9⟩
theorem fp_X4_9 : pm_fp RX4 9 4 1 true (.array .int) := ⟨(RX4, TX4, 7), rfl, by decide, rfl, fk_X4_9, rfl, by decide +kernel⟩
theorem fk_X4_15 : Cond.fieldLink RX4 15 RX4 (TX4 2).2.1 (TX4 2).2.2.1 ∈ pm_gw := pm_gw_of 82 (by decide +kernel) rfl
theorem fl_X4_15 : pm_fl RX4 15 4 2 := ⟨(RX4, TX4, 7), rfl, by decide, rfl, fk_X4_15⟩
theorem fp_X4_15 : pm_fp RX4 15 4 2 true (.array .int) := ⟨(RX4, TX4, 7), rfl, by decide, rfl, fk_X4_15, rfl, by decide +kernel⟩
theorem fk_X4_18 : Cond.fieldLink RX4 18 RX4 (TX4 4).2.1 (TX4 4).2.2.1 ∈ pm_gw := pm_gw_of 87 (by decide +kernel) rfl
theorem fl_X4_18 : pm_fl RX4 18 4 4 := ⟨(RX4, TX4, 7), rfl, by decide, rfl, fk_X4_18⟩
theorem fp_X4_18 : pm_fp RX4 18 4 4 false .int := ⟨(RX4, TX4, 7), rfl, by decide, rfl, fk_X4_18, rfl, by decide +kernel⟩
theorem fk_X4_22 : Cond.fieldLink RX4 22 RX4 (TX4 5).2.1 (TX4 5).2.2.1 ∈ pm_gw := pm_gw_of 91 (by decide +kernel) rfl
theorem fl_X4_22 : pm_fl RX4 22 4 5 := ⟨(RX4, TX4, 7), rfl, by decide, rfl, fk_X4_22⟩
theorem fp_X4_22 : pm_fp RX4 22 4 5 true (.array .int) := ⟨(RX4, TX4, 7), rfl, by decide, rfl, fk_X4_22, rfl, by decide +kernel⟩
theorem cl_X4_25 : Cond.classLink RX4 25 RX1 ∈ pm_gw := pm_gw_of 76 (by decide +kernel) rfl
theorem fk_X4_27 : Cond.fieldLink RX4 27 RX4 (TX4 6).2.1 (TX4 6).2.2.1 ∈ pm_gw := pm_gw_of 92 (by decide +kernel) rfl
theorem fl_X4_27 : pm_fl RX4 27 4 6 := ⟨(RX4, TX4, 7), rfl, by decide, rfl, fk_X4_27⟩
theorem fp_X4_27 : pm_fp RX4 27 4 6 true (.array (.object "BuildEngine$Result")) := ⟨(RX4, TX4, 7), rfl, by decide, rfl, fk_X4_27, rfl, by decide +kernel⟩
theorem fk_X4_31 : Cond.fieldLink RX4 31 RX4 (TX4 0).2.1 (TX4 0).2.2.1 ∈ pm_gw := pm_gw_of 77 (by decide +kernel) rfl
theorem fl_X4_31 : pm_fl RX4 31 4 0 := ⟨(RX4, TX4, 7), rfl, by decide, rfl, fk_X4_31⟩
theorem fp_X4_31 : pm_fp RX4 31 4 0 false .int := ⟨(RX4, TX4, 7), rfl, by decide, rfl, fk_X4_31, rfl, by decide +kernel⟩
theorem fk_X4_34 : Cond.fieldLink RX4 34 RX3 (TX3 1).2.1 (TX3 1).2.2.1 ∈ pm_gw := pm_gw_of 205 (by decide +kernel) rfl
theorem fl_X4_34 : pm_fl RX4 34 3 1 := ⟨(RX3, TX3, 2), rfl, by decide, rfl, fk_X4_34⟩
theorem lk_X4_39 : Cond.methodLink RX4 39 yJ9_min_7cf53 ∈ pm_gw := pm_gw_of 347 (by decide +kernel) rfl
theorem lk_X4_45 : Cond.methodLink RX4 45 yX3_letterAt ∈ pm_gw := pm_gw_of 350 (by decide +kernel) rfl
theorem lk_X4_49 : Cond.methodLink RX4 49 yX3_numberAt ∈ pm_gw := pm_gw_of 351 (by decide +kernel) rfl
theorem lk_X4_52 : Cond.methodLink RX4 52 yX4_dropTrace ∈ pm_gw := pm_gw_of 352 (by decide +kernel) rfl
theorem lk_X4_55 : Cond.methodLink RX4 55 yX4_copyRule ∈ pm_gw := pm_gw_of 372 (by decide +kernel) rfl
theorem lk_X4_59 : Cond.methodLink RX4 59 arraycopyName ∈ pm_gw := pm_gw_of 376 (by decide +kernel) rfl
theorem lk_X4_65 : Cond.methodLink RX4 65 yX4_traces ∈ pm_gw := pm_gw_of 474 (by decide +kernel) rfl
theorem lk_X4_69 : Cond.methodLink RX4 69 yX4_tracedKey ∈ pm_gw := pm_gw_of 478 (by decide +kernel) rfl
theorem fk_X4_72 : Cond.fieldLink RX4 72 RX4 (TX4 3).2.1 (TX4 3).2.2.1 ∈ pm_gw := pm_gw_of 85 (by decide +kernel) rfl
theorem fl_X4_72 : pm_fl RX4 72 4 3 := ⟨(RX4, TX4, 7), rfl, by decide, rfl, fk_X4_72⟩
theorem fp_X4_72 : pm_fp RX4 72 4 3 false (.object "BuildEngine$Result") := ⟨(RX4, TX4, 7), rfl, by decide, rfl, fk_X4_72, rfl, by decide +kernel⟩
theorem lk_X5_3 : Cond.methodLink RX5 3 objectInit ∈ pm_gw := pm_gw_of 66 (by decide +kernel) rfl
theorem cl_X5_9 : Cond.classLink RX5 9 RX1 ∈ pm_gw := pm_gw_of 67 (by decide +kernel) rfl
theorem fk_X5_11 : Cond.fieldLink RX5 11 RX5 (TX5 0).2.1 (TX5 0).2.2.1 ∈ pm_gw := pm_gw_of 141 (by decide +kernel) rfl
theorem fl_X5_11 : pm_fl RX5 11 5 0 := ⟨(RX5, TX5, 4), rfl, by decide, rfl, fk_X5_11⟩
theorem fp_X5_11 : pm_fp RX5 11 5 0 true (.array (.object "BuildEngine$Result")) := ⟨(RX5, TX5, 4), rfl, by decide, rfl, fk_X5_11, rfl, by decide +kernel⟩
theorem cl_X5_17 : Cond.classLink RX5 17 RX4 ∈ pm_gw := pm_gw_of 69 (by decide +kernel) rfl
theorem fk_X5_19 : Cond.fieldLink RX5 19 RX5 (TX5 1).2.1 (TX5 1).2.2.1 ∈ pm_gw := pm_gw_of 142 (by decide +kernel) rfl
theorem fl_X5_19 : pm_fl RX5 19 5 1 := ⟨(RX5, TX5, 4), rfl, by decide, rfl, fk_X5_19⟩
theorem fp_X5_19 : pm_fp RX5 19 5 1 true (.array (.object "BuildEngine$Target")) := ⟨(RX5, TX5, 4), rfl, by decide, rfl, fk_X5_19, rfl, by decide +kernel⟩
theorem fk_X5_23 : Cond.fieldLink RX5 23 RX5 (TX5 2).2.1 (TX5 2).2.2.1 ∈ pm_gw := pm_gw_of 143 (by decide +kernel) rfl
theorem fl_X5_23 : pm_fl RX5 23 5 2 := ⟨(RX5, TX5, 4), rfl, by decide, rfl, fk_X5_23⟩
theorem fp_X5_23 : pm_fp RX5 23 5 2 true (.array (.object "BuildEngine$Result")) := ⟨(RX5, TX5, 4), rfl, by decide, rfl, fk_X5_23, rfl, by decide +kernel⟩
theorem fk_X5_26 : Cond.fieldLink RX5 26 RX5 (TX5 3).2.1 (TX5 3).2.2.1 ∈ pm_gw := pm_gw_of 144 (by decide +kernel) rfl
theorem fl_X5_26 : pm_fl RX5 26 5 3 := ⟨(RX5, TX5, 4), rfl, by decide, rfl, fk_X5_26⟩
theorem fp_X5_26 : pm_fp RX5 26 5 3 true (.array .int) := ⟨(RX5, TX5, 4), rfl, by decide, rfl, fk_X5_26, rfl, by decide +kernel⟩
theorem lk_X5_30 : pm_lkN RX5 30 yX4_init := ⟨"BuildEngine", List.mem_of_getElem? (i := 72) (by decide +kernel)⟩
theorem lk_X5_31 : Cond.methodLink RX5 31 yX1_ofFailure ∈ pm_gw := pm_gw_of 109 (by decide +kernel) rfl
theorem lk_X5_35 : pm_lkN RX5 35 yX6_isTarget := ⟨"BuildEngine", List.mem_of_getElem? (i := 311) (by decide +kernel)⟩
theorem lk_X5_39 : pm_lkN RX5 39 yX6_isInput := ⟨"BuildEngine", List.mem_of_getElem? (i := 274) (by decide +kernel)⟩
theorem lk_X5_42 : Cond.methodLink RX5 42 yX5_contentOf ∈ pm_gw := pm_gw_of 270 (by decide +kernel) rfl
theorem fk_X5_46 : Cond.fieldLink RX5 46 RX1 (TX1 0).2.1 (TX1 0).2.2.1 ∈ pm_gw := pm_gw_of 120 (by decide +kernel) rfl
theorem fl_X5_46 : pm_fl RX5 46 1 0 := ⟨(RX1, TX1, 5), rfl, by decide, rfl, fk_X5_46⟩
theorem lk_X5_50 : Cond.methodLink RX5 50 yX1_ofContent ∈ pm_gw := pm_gw_of 275 (by decide +kernel) rfl
theorem lk_X5_53 : pm_lkN RX5 53 yX6_isKey := ⟨"BuildEngine", List.mem_of_getElem? (i := 424) (by decide +kernel)⟩
theorem lk_X5_56 : Cond.methodLink RX5 56 yX5_targetOf ∈ pm_gw := pm_gw_of 441 (by decide +kernel) rfl
theorem fk_X5_60 : Cond.fieldLink RX5 60 RX4 (TX4 3).2.1 (TX4 3).2.2.1 ∈ pm_gw := pm_gw_of 84 (by decide +kernel) rfl
theorem fl_X5_60 : pm_fl RX5 60 4 3 := ⟨(RX4, TX4, 7), rfl, by decide, rfl, fk_X5_60⟩
theorem lk_X5_64 : Cond.methodLink RX5 64 yX5_emptyOf ∈ pm_gw := pm_gw_of 442 (by decide +kernel) rfl
theorem lk_X5_67 : Cond.methodLink RX5 67 yX5_resultOf ∈ pm_gw := pm_gw_of 507 (by decide +kernel) rfl
theorem lk_X5_70 : Cond.methodLink RX5 70 yX1_isFailure ∈ pm_gw := pm_gw_of 508 (by decide +kernel) rfl
theorem kc_X5_74 : Cond.constant RX5 74 (10000000) ∈ pm_gw := pm_gw_of 543 (by decide +kernel) rfl
theorem lk_X5_75 : Cond.methodLink RX5 75 yX1_asTold ∈ pm_gw := pm_gw_of 544 (by decide +kernel) rfl
theorem lk_X5_79 : Cond.methodLink RX5 79 yX5_failureOf ∈ pm_gw := pm_gw_of 579 (by decide +kernel) rfl
theorem lk_X5_82 : Cond.methodLink RX5 82 yX1_isOrComesOfKey ∈ pm_gw := pm_gw_of 580 (by decide +kernel) rfl
theorem lk_X5_85 : Cond.methodLink RX5 85 yX4_traces ∈ pm_gw := pm_gw_of 604 (by decide +kernel) rfl
theorem lk_X5_88 : Cond.methodLink RX5 88 yX5_isUpToDate ∈ pm_gw := pm_gw_of 657 (by decide +kernel) rfl
theorem lk_X5_92 : Cond.methodLink RX5 92 yX4_hasTrace ∈ pm_gw := pm_gw_of 661 (by decide +kernel) rfl
theorem fk_X5_95 : Cond.fieldLink RX5 95 RX4 (TX4 4).2.1 (TX4 4).2.2.1 ∈ pm_gw := pm_gw_of 89 (by decide +kernel) rfl
theorem fl_X5_95 : pm_fl RX5 95 4 4 := ⟨(RX4, TX4, 7), rfl, by decide, rfl, fk_X5_95⟩
theorem lk_X5_98 : Cond.methodLink RX5 98 yX4_tracedKey ∈ pm_gw := pm_gw_of 624 (by decide +kernel) rfl
theorem lk_X5_102 : Cond.methodLink RX5 102 yX4_tracedResult ∈ pm_gw := pm_gw_of 662 (by decide +kernel) rfl
theorem lk_X5_105 : Cond.methodLink RX5 105 yX1_areSame ∈ pm_gw := pm_gw_of 648 (by decide +kernel) rfl
theorem lk_X5_109 : Cond.methodLink RX5 109 yJ7_fill_53178 ∈ pm_gw := pm_gw_of 613 (by decide +kernel) rfl
theorem lk_X5_115 : Cond.methodLink RX5 115 yX5_deepenAll ∈ pm_gw := pm_gw_of 616 (by decide +kernel) rfl
theorem lk_X5_118 : Cond.methodLink RX5 118 yX5_depthByTrace ∈ pm_gw := pm_gw_of 620 (by decide +kernel) rfl
theorem lk_X5_122 : Cond.methodLink RX5 122 yJ9_max_7cf53 ∈ pm_gw := pm_gw_of 625 (by decide +kernel) rfl
theorem lk_X5_128 : Cond.methodLink RX5 128 yX5_hasSameBelow ∈ pm_gw := pm_gw_of 644 (by decide +kernel) rfl
theorem fk_X5_131 : Cond.fieldLink RX5 131 RX4 (TX4 0).2.1 (TX4 0).2.2.1 ∈ pm_gw := pm_gw_of 80 (by decide +kernel) rfl
theorem fl_X5_131 : pm_fl RX5 131 4 0 := ⟨(RX4, TX4, 7), rfl, by decide, rfl, fk_X5_131⟩
theorem lk_X5_134 : Cond.methodLink RX5 134 yX4_copyFrom ∈ pm_gw := pm_gw_of 530 (by decide +kernel) rfl
theorem cl_L_7 : Cond.classLink RL 7 RX6 ∈ pm_gw := pm_gw_of 47 (by decide +kernel) rfl
theorem lk_L_9 : Cond.methodLink RL 9 yX6_init ∈ pm_gw := pm_gw_of 49 (by decide +kernel) rfl
theorem cl_L_10 : Cond.classLink RL 10 RX7 ∈ pm_gw := pm_gw_of 754 (by decide +kernel) rfl
theorem lk_L_12 : Cond.methodLink RL 12 yX7_init ∈ pm_gw := pm_gw_of 756 (by decide +kernel) rfl
theorem lk_L_13 : Cond.methodLink RL 13 yX6_give ∈ pm_gw := pm_gw_of 254 (by decide +kernel) rfl
theorem lk_L_17 : Cond.methodLink RL 17 yX7_give ∈ pm_gw := pm_gw_of 849 (by decide +kernel) rfl
theorem lk_L_18 : Cond.methodLink RL 18 yX6_take ∈ pm_gw := pm_gw_of 278 (by decide +kernel) rfl
theorem lk_L_22 : Cond.methodLink RL 22 yX7_take ∈ pm_gw := pm_gw_of 866 (by decide +kernel) rfl
theorem lk_L_23 : Cond.methodLink RL 23 yX6_feed ∈ pm_gw := pm_gw_of 287 (by decide +kernel) rfl
theorem lk_L_26 : Cond.methodLink RL 26 yX7_feed ∈ pm_gw := pm_gw_of 873 (by decide +kernel) rfl
theorem lk_L_27 : Cond.methodLink RL 27 yX6_clear ∈ pm_gw := pm_gw_of 295 (by decide +kernel) rfl
theorem lk_L_31 : Cond.methodLink RL 31 yX7_clear ∈ pm_gw := pm_gw_of 878 (by decide +kernel) rfl
theorem lk_L_32 : Cond.methodLink RL 32 yX6_rule ∈ pm_gw := pm_gw_of 303 (by decide +kernel) rfl
theorem lk_L_35 : Cond.methodLink RL 35 yX7_rule ∈ pm_gw := pm_gw_of 882 (by decide +kernel) rfl
theorem lk_L_36 : Cond.methodLink RL 36 yX6_drop ∈ pm_gw := pm_gw_of 356 (by decide +kernel) rfl
theorem lk_L_39 : Cond.methodLink RL 39 yX7_drop ∈ pm_gw := pm_gw_of 911 (by decide +kernel) rfl
theorem lk_L_40 : Cond.methodLink RL 40 yX6_copy ∈ pm_gw := pm_gw_of 364 (by decide +kernel) rfl
theorem lk_L_43 : Cond.methodLink RL 43 yX7_copy ∈ pm_gw := pm_gw_of 919 (by decide +kernel) rfl
theorem lk_L_44 : Cond.methodLink RL 44 yX6_step ∈ pm_gw := pm_gw_of 379 (by decide +kernel) rfl
theorem lk_L_47 : Cond.methodLink RL 47 yX7_step ∈ pm_gw := pm_gw_of 923 (by decide +kernel) rfl
theorem lk_L_48 : Cond.methodLink RL 48 yX6_build ∈ pm_gw := pm_gw_of 391 (by decide +kernel) rfl
theorem lk_L_51 : Cond.methodLink RL 51 yX7_build ∈ pm_gw := pm_gw_of 927 (by decide +kernel) rfl
theorem lk_L_52 : Cond.methodLink RL 52 yX6_all ∈ pm_gw := pm_gw_of 509 (by decide +kernel) rfl
theorem lk_L_55 : Cond.methodLink RL 55 yX7_all ∈ pm_gw := pm_gw_of 986 (by decide +kernel) rfl
theorem lk_L_56 : Cond.methodLink RL 56 yX6_some ∈ pm_gw := pm_gw_of 518 (by decide +kernel) rfl
theorem lk_L_59 : Cond.methodLink RL 59 yX7_some ∈ pm_gw := pm_gw_of 991 (by decide +kernel) rfl
theorem lk_L_60 : Cond.methodLink RL 60 yX6_tried ∈ pm_gw := pm_gw_of 522 (by decide +kernel) rfl
theorem lk_L_64 : Cond.methodLink RL 64 yX7_tried ∈ pm_gw := pm_gw_of 996 (by decide +kernel) rfl
theorem lk_L_65 : Cond.methodLink RL 65 yX6_result ∈ pm_gw := pm_gw_of 534 (by decide +kernel) rfl
theorem lk_L_68 : Cond.methodLink RL 68 yX7_result ∈ pm_gw := pm_gw_of 1003 (by decide +kernel) rfl
theorem lk_L_69 : Cond.methodLink RL 69 yX6_failure ∈ pm_gw := pm_gw_of 550 (by decide +kernel) rfl
theorem lk_L_72 : Cond.methodLink RL 72 yX7_failure ∈ pm_gw := pm_gw_of 1015 (by decide +kernel) rfl
theorem lk_L_73 : Cond.methodLink RL 73 yX6_causes ∈ pm_gw := pm_gw_of 555 (by decide +kernel) rfl
theorem lk_L_76 : Cond.methodLink RL 76 yX7_causes ∈ pm_gw := pm_gw_of 1024 (by decide +kernel) rfl
theorem lk_L_77 : Cond.methodLink RL 77 yX6_root ∈ pm_gw := pm_gw_of 563 (by decide +kernel) rfl
theorem lk_L_80 : Cond.methodLink RL 80 yX7_root ∈ pm_gw := pm_gw_of 1028 (by decide +kernel) rfl
theorem lk_L_81 : Cond.methodLink RL 81 yX6_blamed ∈ pm_gw := pm_gw_of 571 (by decide +kernel) rfl
theorem lk_L_84 : Cond.methodLink RL 84 yX7_blamed ∈ pm_gw := pm_gw_of 1032 (by decide +kernel) rfl
theorem lk_L_85 : Cond.methodLink RL 85 yX6_trace ∈ pm_gw := pm_gw_of 584 (by decide +kernel) rfl
theorem lk_L_88 : Cond.methodLink RL 88 yX7_trace ∈ pm_gw := pm_gw_of 1036 (by decide +kernel) rfl
theorem lk_L_89 : Cond.methodLink RL 89 yX6_seen ∈ pm_gw := pm_gw_of 590 (by decide +kernel) rfl
theorem lk_L_92 : Cond.methodLink RL 92 yX7_seen ∈ pm_gw := pm_gw_of 1044 (by decide +kernel) rfl
theorem lk_L_93 : Cond.methodLink RL 93 yX6_users ∈ pm_gw := pm_gw_of 596 (by decide +kernel) rfl
theorem lk_L_96 : Cond.methodLink RL 96 yX7_users ∈ pm_gw := pm_gw_of 1048 (by decide +kernel) rfl
theorem lk_L_97 : Cond.methodLink RL 97 yX6_depth ∈ pm_gw := pm_gw_of 605 (by decide +kernel) rfl
theorem lk_L_100 : Cond.methodLink RL 100 yX7_depth ∈ pm_gw := pm_gw_of 1056 (by decide +kernel) rfl
theorem lk_L_101 : Cond.methodLink RL 101 yX6_order ∈ pm_gw := pm_gw_of 628 (by decide +kernel) rfl
theorem lk_L_104 : Cond.methodLink RL 104 yX7_order ∈ pm_gw := pm_gw_of 1061 (by decide +kernel) rfl
theorem lk_L_105 : Cond.methodLink RL 105 yX6_unlike ∈ pm_gw := pm_gw_of 636 (by decide +kernel) rfl
theorem lk_L_108 : Cond.methodLink RL 108 yX7_unlike ∈ pm_gw := pm_gw_of 1065 (by decide +kernel) rfl
theorem lk_L_109 : Cond.methodLink RL 109 yX6_fresh ∈ pm_gw := pm_gw_of 649 (by decide +kernel) rfl
theorem lk_L_112 : Cond.methodLink RL 112 yX7_fresh ∈ pm_gw := pm_gw_of 1069 (by decide +kernel) rfl
theorem lk_L_113 : Cond.methodLink RL 113 yX6_forget ∈ pm_gw := pm_gw_of 663 (by decide +kernel) rfl
theorem lk_L_116 : Cond.methodLink RL 116 yX7_forget ∈ pm_gw := pm_gw_of 1073 (by decide +kernel) rfl
theorem lk_L_117 : Cond.methodLink RL 117 yX6_told ∈ pm_gw := pm_gw_of 668 (by decide +kernel) rfl
theorem lk_L_120 : Cond.methodLink RL 120 yX7_told ∈ pm_gw := pm_gw_of 1077 (by decide +kernel) rfl
theorem lk_L_121 : Cond.methodLink RL 121 yX6_list ∈ pm_gw := pm_gw_of 688 (by decide +kernel) rfl
theorem lk_L_124 : Cond.methodLink RL 124 yX7_list ∈ pm_gw := pm_gw_of 1085 (by decide +kernel) rfl
theorem kc_L_125 : Cond.constantLong RL 125 (4294967295) ∈ pm_gw := pm_gw_of 1122 (by decide +kernel) rfl
theorem lk_L_127 : Cond.methodLink RL 127 yX6_put ∈ pm_gw := pm_gw_of 705 (by decide +kernel) rfl
theorem lk_L_131 : Cond.methodLink RL 131 yX7_put ∈ pm_gw := pm_gw_of 1093 (by decide +kernel) rfl
theorem lk_L_132 : Cond.methodLink RL 132 yX6_get ∈ pm_gw := pm_gw_of 717 (by decide +kernel) rfl
theorem lk_L_136 : Cond.methodLink RL 136 yX7_get ∈ pm_gw := pm_gw_of 1097 (by decide +kernel) rfl
theorem lk_L_137 : Cond.methodLink RL 137 yX6_move ∈ pm_gw := pm_gw_of 727 (by decide +kernel) rfl
theorem lk_L_141 : Cond.methodLink RL 141 yX7_move ∈ pm_gw := pm_gw_of 1102 (by decide +kernel) rfl
theorem lk_L_142 : Cond.methodLink RL 142 yX6_lay ∈ pm_gw := pm_gw_of 736 (by decide +kernel) rfl
theorem lk_L_145 : Cond.methodLink RL 145 yX7_lay ∈ pm_gw := pm_gw_of 1106 (by decide +kernel) rfl
theorem lk_L_146 : Cond.methodLink RL 146 yX6_judge ∈ pm_gw := pm_gw_of 740 (by decide +kernel) rfl
theorem lk_L_149 : Cond.methodLink RL 149 yX7_judge ∈ pm_gw := pm_gw_of 1110 (by decide +kernel) rfl
theorem lk_L_150 : Cond.methodLink RL 150 yX6_image ∈ pm_gw := pm_gw_of 745 (by decide +kernel) rfl
theorem lk_L_153 : Cond.methodLink RL 153 yX7_image ∈ pm_gw := pm_gw_of 1114 (by decide +kernel) rfl
theorem lk_L_154 : Cond.methodLink RL 154 yX6_undo ∈ pm_gw := pm_gw_of 749 (by decide +kernel) rfl
theorem lk_L_157 : Cond.methodLink RL 157 yX7_undo ∈ pm_gw := pm_gw_of 1118 (by decide +kernel) rfl
theorem kc_X7_5 : Cond.constantLong RX7 5 (7) ∈ pm_gw := pm_gw_of 856 (by decide +kernel) rfl
theorem lk_X7_7 : Cond.methodLink RX7 7 yX7_isIn ∈ pm_gw := pm_gw_of 857 (by decide +kernel) rfl
theorem kc_X7_11 : Cond.constantLong RX7 11 (8) ∈ pm_gw := pm_gw_of 889 (by decide +kernel) rfl
theorem kc_X7_13 : Cond.constantLong RX7 13 (23) ∈ pm_gw := pm_gw_of 890 (by decide +kernel) rfl
theorem kc_X7_15 : Cond.constant RX7 15 (1000000) ∈ pm_gw := pm_gw_of 865 (by decide +kernel) rfl
theorem fk_X7_16 : Cond.fieldLink RX7 16 RX7 (TX7 4).2.1 (TX7 4).2.2.1 ∈ pm_gw := pm_gw_of 764 (by decide +kernel) rfl
theorem fl_X7_16 : pm_fl RX7 16 7 4 := ⟨(RX7, TX7, 29), rfl, by decide, rfl, fk_X7_16⟩
theorem fp_X7_16 : pm_fp RX7 16 7 4 false .int := ⟨(RX7, TX7, 29), rfl, by decide, rfl, fk_X7_16, rfl, by decide +kernel⟩
theorem fk_X7_20 : Cond.fieldLink RX7 20 RX7 (TX7 0).2.1 (TX7 0).2.2.1 ∈ pm_gw := pm_gw_of 760 (by decide +kernel) rfl
theorem fl_X7_20 : pm_fl RX7 20 7 0 := ⟨(RX7, TX7, 29), rfl, by decide, rfl, fk_X7_20⟩
theorem fp_X7_20 : pm_fp RX7 20 7 0 true (.array .int) := ⟨(RX7, TX7, 29), rfl, by decide, rfl, fk_X7_20, rfl, by decide +kernel⟩
theorem fk_X7_24 : Cond.fieldLink RX7 24 RX7 (TX7 1).2.1 (TX7 1).2.2.1 ∈ pm_gw := pm_gw_of 761 (by decide +kernel) rfl
theorem fl_X7_24 : pm_fl RX7 24 7 1 := ⟨(RX7, TX7, 29), rfl, by decide, rfl, fk_X7_24⟩
theorem fp_X7_24 : pm_fp RX7 24 7 1 true (.array .int) := ⟨(RX7, TX7, 29), rfl, by decide, rfl, fk_X7_24, rfl, by decide +kernel⟩
theorem fk_X7_27 : Cond.fieldLink RX7 27 RX7 (TX7 2).2.1 (TX7 2).2.2.1 ∈ pm_gw := pm_gw_of 762 (by decide +kernel) rfl
theorem fl_X7_27 : pm_fl RX7 27 7 2 := ⟨(RX7, TX7, 29), rfl, by decide, rfl, fk_X7_27⟩
theorem fp_X7_27 : pm_fp RX7 27 7 2 true (.array .int) := ⟨(RX7, TX7, 29), rfl, by decide, rfl, fk_X7_27, rfl, by decide +kernel⟩
theorem fk_X7_30 : Cond.fieldLink RX7 30 RX7 (TX7 3).2.1 (TX7 3).2.2.1 ∈ pm_gw := pm_gw_of 763 (by decide +kernel) rfl
theorem fl_X7_30 : pm_fl RX7 30 7 3 := ⟨(RX7, TX7, 29), rfl, by decide, rfl, fk_X7_30⟩
theorem fp_X7_30 : pm_fp RX7 30 7 3 true (.array .int) := ⟨(RX7, TX7, 29), rfl, by decide, rfl, fk_X7_30, rfl, by decide +kernel⟩
theorem kc_X7_33 : Cond.constant RX7 33 (10000000) ∈ pm_gw := pm_gw_of 1014 (by decide +kernel) rfl
theorem lk_X7_34 : Cond.methodLink RX7 34 yX7_isFailure ∈ pm_gw := pm_gw_of 971 (by decide +kernel) rfl
theorem lk_X7_38 : Cond.methodLink RX7 38 yX7_numberOf ∈ pm_gw := pm_gw_of 870 (by decide +kernel) rfl
theorem lk_X7_42 : Cond.methodLink RX7 42 objectInit ∈ pm_gw := pm_gw_of 759 (by decide +kernel) rfl
theorem fk_X7_48 : Cond.fieldLink RX7 48 RX7 (TX7 5).2.1 (TX7 5).2.2.1 ∈ pm_gw := pm_gw_of 765 (by decide +kernel) rfl
theorem fl_X7_48 : pm_fl RX7 48 7 5 := ⟨(RX7, TX7, 29), rfl, by decide, rfl, fk_X7_48⟩
theorem fp_X7_48 : pm_fp RX7 48 7 5 true (.array .int) := ⟨(RX7, TX7, 29), rfl, by decide, rfl, fk_X7_48, rfl, by decide +kernel⟩
theorem fk_X7_51 : Cond.fieldLink RX7 51 RX7 (TX7 6).2.1 (TX7 6).2.2.1 ∈ pm_gw := pm_gw_of 766 (by decide +kernel) rfl
theorem fl_X7_51 : pm_fl RX7 51 7 6 := ⟨(RX7, TX7, 29), rfl, by decide, rfl, fk_X7_51⟩
theorem fp_X7_51 : pm_fp RX7 51 7 6 true (.array .int) := ⟨(RX7, TX7, 29), rfl, by decide, rfl, fk_X7_51, rfl, by decide +kernel⟩
theorem fk_X7_54 : Cond.fieldLink RX7 54 RX7 (TX7 7).2.1 (TX7 7).2.2.1 ∈ pm_gw := pm_gw_of 767 (by decide +kernel) rfl
theorem fl_X7_54 : pm_fl RX7 54 7 7 := ⟨(RX7, TX7, 29), rfl, by decide, rfl, fk_X7_54⟩
theorem fp_X7_54 : pm_fp RX7 54 7 7 true (.array .int) := ⟨(RX7, TX7, 29), rfl, by decide, rfl, fk_X7_54, rfl, by decide +kernel⟩
theorem fk_X7_57 : Cond.fieldLink RX7 57 RX7 (TX7 9).2.1 (TX7 9).2.2.1 ∈ pm_gw := pm_gw_of 769 (by decide +kernel) rfl
theorem fl_X7_57 : pm_fl RX7 57 7 9 := ⟨(RX7, TX7, 29), rfl, by decide, rfl, fk_X7_57⟩
theorem fp_X7_57 : pm_fp RX7 57 7 9 true (.array .int) := ⟨(RX7, TX7, 29), rfl, by decide, rfl, fk_X7_57, rfl, by decide +kernel⟩
theorem fk_X7_60 : Cond.fieldLink RX7 60 RX7 (TX7 11).2.1 (TX7 11).2.2.1 ∈ pm_gw := pm_gw_of 771 (by decide +kernel) rfl
theorem fl_X7_60 : pm_fl RX7 60 7 11 := ⟨(RX7, TX7, 29), rfl, by decide, rfl, fk_X7_60⟩
theorem fp_X7_60 : pm_fp RX7 60 7 11 true (.array .boolean) := ⟨(RX7, TX7, 29), rfl, by decide, rfl, fk_X7_60, rfl, by decide +kernel⟩
theorem fk_X7_64 : Cond.fieldLink RX7 64 RX7 (TX7 12).2.1 (TX7 12).2.2.1 ∈ pm_gw := pm_gw_of 772 (by decide +kernel) rfl
theorem fl_X7_64 : pm_fl RX7 64 7 12 := ⟨(RX7, TX7, 29), rfl, by decide, rfl, fk_X7_64⟩
theorem fp_X7_64 : pm_fp RX7 64 7 12 true (.array .boolean) := ⟨(RX7, TX7, 29), rfl, by decide, rfl, fk_X7_64, rfl, by decide +kernel⟩
theorem fk_X7_67 : Cond.fieldLink RX7 67 RX7 (TX7 13).2.1 (TX7 13).2.2.1 ∈ pm_gw := pm_gw_of 773 (by decide +kernel) rfl
theorem fl_X7_67 : pm_fl RX7 67 7 13 := ⟨(RX7, TX7, 29), rfl, by decide, rfl, fk_X7_67⟩
theorem fp_X7_67 : pm_fp RX7 67 7 13 true (.array .int) := ⟨(RX7, TX7, 29), rfl, by decide, rfl, fk_X7_67, rfl, by decide +kernel⟩
theorem fk_X7_70 : Cond.fieldLink RX7 70 RX7 (TX7 15).2.1 (TX7 15).2.2.1 ∈ pm_gw := pm_gw_of 775 (by decide +kernel) rfl
theorem fl_X7_70 : pm_fl RX7 70 7 15 := ⟨(RX7, TX7, 29), rfl, by decide, rfl, fk_X7_70⟩
theorem fp_X7_70 : pm_fp RX7 70 7 15 false .int := ⟨(RX7, TX7, 29), rfl, by decide, rfl, fk_X7_70, rfl, by decide +kernel⟩
theorem fk_X7_73 : Cond.fieldLink RX7 73 RX7 (TX7 20).2.1 (TX7 20).2.2.1 ∈ pm_gw := pm_gw_of 780 (by decide +kernel) rfl
theorem fl_X7_73 : pm_fl RX7 73 7 20 := ⟨(RX7, TX7, 29), rfl, by decide, rfl, fk_X7_73⟩
theorem fp_X7_73 : pm_fp RX7 73 7 20 true (.array .int) := ⟨(RX7, TX7, 29), rfl, by decide, rfl, fk_X7_73, rfl, by decide +kernel⟩
theorem fk_X7_76 : Cond.fieldLink RX7 76 RX7 (TX7 21).2.1 (TX7 21).2.2.1 ∈ pm_gw := pm_gw_of 781 (by decide +kernel) rfl
theorem fl_X7_76 : pm_fl RX7 76 7 21 := ⟨(RX7, TX7, 29), rfl, by decide, rfl, fk_X7_76⟩
theorem fp_X7_76 : pm_fp RX7 76 7 21 true (.array .int) := ⟨(RX7, TX7, 29), rfl, by decide, rfl, fk_X7_76, rfl, by decide +kernel⟩
theorem fk_X7_79 : Cond.fieldLink RX7 79 RX7 (TX7 23).2.1 (TX7 23).2.2.1 ∈ pm_gw := pm_gw_of 783 (by decide +kernel) rfl
theorem fl_X7_79 : pm_fl RX7 79 7 23 := ⟨(RX7, TX7, 29), rfl, by decide, rfl, fk_X7_79⟩
theorem fp_X7_79 : pm_fp RX7 79 7 23 true (.array .boolean) := ⟨(RX7, TX7, 29), rfl, by decide, rfl, fk_X7_79, rfl, by decide +kernel⟩
theorem fk_X7_82 : Cond.fieldLink RX7 82 RX7 (TX7 24).2.1 (TX7 24).2.2.1 ∈ pm_gw := pm_gw_of 784 (by decide +kernel) rfl
theorem fl_X7_82 : pm_fl RX7 82 7 24 := ⟨(RX7, TX7, 29), rfl, by decide, rfl, fk_X7_82⟩
theorem fp_X7_82 : pm_fp RX7 82 7 24 true (.array .int) := ⟨(RX7, TX7, 29), rfl, by decide, rfl, fk_X7_82, rfl, by decide +kernel⟩
theorem fk_X7_85 : Cond.fieldLink RX7 85 RX7 (TX7 25).2.1 (TX7 25).2.2.1 ∈ pm_gw := pm_gw_of 785 (by decide +kernel) rfl
theorem fl_X7_85 : pm_fl RX7 85 7 25 := ⟨(RX7, TX7, 29), rfl, by decide, rfl, fk_X7_85⟩
theorem fp_X7_85 : pm_fp RX7 85 7 25 true (.array .int) := ⟨(RX7, TX7, 29), rfl, by decide, rfl, fk_X7_85, rfl, by decide +kernel⟩
theorem fk_X7_88 : Cond.fieldLink RX7 88 RX7 (TX7 26).2.1 (TX7 26).2.2.1 ∈ pm_gw := pm_gw_of 786 (by decide +kernel) rfl
theorem fl_X7_88 : pm_fl RX7 88 7 26 := ⟨(RX7, TX7, 29), rfl, by decide, rfl, fk_X7_88⟩
theorem fp_X7_88 : pm_fp RX7 88 7 26 true (.array .int) := ⟨(RX7, TX7, 29), rfl, by decide, rfl, fk_X7_88, rfl, by decide +kernel⟩
theorem fk_X7_91 : Cond.fieldLink RX7 91 RX7 (TX7 27).2.1 (TX7 27).2.2.1 ∈ pm_gw := pm_gw_of 787 (by decide +kernel) rfl
theorem fl_X7_91 : pm_fl RX7 91 7 27 := ⟨(RX7, TX7, 29), rfl, by decide, rfl, fk_X7_91⟩
theorem fp_X7_91 : pm_fp RX7 91 7 27 true (.array .long) := ⟨(RX7, TX7, 29), rfl, by decide, rfl, fk_X7_91, rfl, by decide +kernel⟩
theorem fk_X7_95 : Cond.fieldLink RX7 95 RX7 (TX7 28).2.1 (TX7 28).2.2.1 ∈ pm_gw := pm_gw_of 788 (by decide +kernel) rfl
theorem fl_X7_95 : pm_fl RX7 95 7 28 := ⟨(RX7, TX7, 29), rfl, by decide, rfl, fk_X7_95⟩
theorem fp_X7_95 : pm_fp RX7 95 7 28 true (.array .long) := ⟨(RX7, TX7, 29), rfl, by decide, rfl, fk_X7_95, rfl, by decide +kernel⟩
theorem lk_X7_98 : Cond.methodLink RX7 98 yX7_traceAt ∈ pm_gw := pm_gw_of 907 (by decide +kernel) rfl
theorem lk_X7_101 : Cond.methodLink RX7 101 yX7_isTarget ∈ pm_gw := pm_gw_of 886 (by decide +kernel) rfl
theorem lk_X7_104 : Cond.methodLink RX7 104 yX7_fails ∈ pm_gw := pm_gw_of 939 (by decide +kernel) rfl
theorem lk_X7_108 : Cond.methodLink RX7 108 yX7_isInput ∈ pm_gw := pm_gw_of 853 (by decide +kernel) rfl
theorem kc_X7_111 : Cond.constantLong RX7 111 (-1000000) ∈ pm_gw := pm_gw_of 860 (by decide +kernel) rfl
theorem kc_X7_113 : Cond.constantLong RX7 113 (1000000) ∈ pm_gw := pm_gw_of 861 (by decide +kernel) rfl
theorem lk_X7_115 : Cond.methodLink RX7 115 yX7_numberResult ∈ pm_gw := pm_gw_of 862 (by decide +kernel) rfl
theorem kc_X7_118 : Cond.constantLong RX7 118 (127) ∈ pm_gw := pm_gw_of 877 (by decide +kernel) rfl
theorem fk_X7_120 : Cond.fieldLink RX7 120 RX7 (TX7 10).2.1 (TX7 10).2.2.1 ∈ pm_gw := pm_gw_of 770 (by decide +kernel) rfl
theorem fl_X7_120 : pm_fl RX7 120 7 10 := ⟨(RX7, TX7, 29), rfl, by decide, rfl, fk_X7_120⟩
theorem fp_X7_120 : pm_fp RX7 120 7 10 false .int := ⟨(RX7, TX7, 29), rfl, by decide, rfl, fk_X7_120, rfl, by decide +kernel⟩
theorem lk_X7_123 : Cond.methodLink RX7 123 yX7_isAsking ∈ pm_gw := pm_gw_of 898 (by decide +kernel) rfl
theorem kc_X7_126 : Cond.constantLong RX7 126 (48) ∈ pm_gw := pm_gw_of 905 (by decide +kernel) rfl
theorem kc_X7_128 : Cond.constantLong RX7 128 (57) ∈ pm_gw := pm_gw_of 906 (by decide +kernel) rfl
theorem lk_X7_130 : Cond.methodLink RX7 130 yX7_isSign ∈ pm_gw := pm_gw_of 895 (by decide +kernel) rfl
theorem lk_X7_133 : Cond.methodLink RX7 133 yX7_isFigure ∈ pm_gw := pm_gw_of 901 (by decide +kernel) rfl
theorem lk_X7_136 : Cond.methodLink RX7 136 yX7_fault ∈ pm_gw := pm_gw_of 891 (by decide +kernel) rfl
theorem lk_X7_140 : Cond.methodLink RX7 140 yX7_ruled ∈ pm_gw := pm_gw_of 915 (by decide +kernel) rfl
theorem fk_X7_144 : Cond.fieldLink RX7 144 RX7 (TX7 14).2.1 (TX7 14).2.2.1 ∈ pm_gw := pm_gw_of 774 (by decide +kernel) rfl
theorem fl_X7_144 : pm_fl RX7 144 7 14 := ⟨(RX7, TX7, 29), rfl, by decide, rfl, fk_X7_144⟩
theorem fp_X7_144 : pm_fp RX7 144 7 14 false .int := ⟨(RX7, TX7, 29), rfl, by decide, rfl, fk_X7_144, rfl, by decide +kernel⟩
theorem lk_X7_147 : Cond.methodLink RX7 147 yX7_traced ∈ pm_gw := pm_gw_of 943 (by decide +kernel) rfl
theorem lk_X7_150 : Cond.methodLink RX7 150 yX7_isAsSeen ∈ pm_gw := pm_gw_of 947 (by decide +kernel) rfl
theorem fk_X7_153 : Cond.fieldLink RX7 153 RX7 (TX7 18).2.1 (TX7 18).2.2.1 ∈ pm_gw := pm_gw_of 778 (by decide +kernel) rfl
theorem fl_X7_153 : pm_fl RX7 153 7 18 := ⟨(RX7, TX7, 29), rfl, by decide, rfl, fk_X7_153⟩
theorem fp_X7_153 : pm_fp RX7 153 7 18 false .int := ⟨(RX7, TX7, 29), rfl, by decide, rfl, fk_X7_153, rfl, by decide +kernel⟩
theorem lk_X7_156 : Cond.methodLink RX7 156 yX7_has ∈ pm_gw := pm_gw_of 955 (by decide +kernel) rfl
theorem lk_X7_159 : Cond.methodLink RX7 159 yX7_runs ∈ pm_gw := pm_gw_of 959 (by decide +kernel) rfl
theorem fk_X7_162 : Cond.fieldLink RX7 162 RX7 (TX7 19).2.1 (TX7 19).2.2.1 ∈ pm_gw := pm_gw_of 779 (by decide +kernel) rfl
theorem fl_X7_162 : pm_fl RX7 162 7 19 := ⟨(RX7, TX7, 29), rfl, by decide, rfl, fk_X7_162⟩
theorem fp_X7_162 : pm_fp RX7 162 7 19 false .int := ⟨(RX7, TX7, 29), rfl, by decide, rfl, fk_X7_162, rfl, by decide +kernel⟩
theorem lk_X7_165 : Cond.methodLink RX7 165 yX7_finishes ∈ pm_gw := pm_gw_of 978 (by decide +kernel) rfl
theorem lk_X7_169 : Cond.methodLink RX7 169 yX7_isDone ∈ pm_gw := pm_gw_of 951 (by decide +kernel) rfl
theorem lk_X7_172 : Cond.methodLink RX7 172 yX7_builds ∈ pm_gw := pm_gw_of 935 (by decide +kernel) rfl
theorem fk_X7_175 : Cond.fieldLink RX7 175 RX7 (TX7 22).2.1 (TX7 22).2.2.1 ∈ pm_gw := pm_gw_of 782 (by decide +kernel) rfl
theorem fl_X7_175 : pm_fl RX7 175 7 22 := ⟨(RX7, TX7, 29), rfl, by decide, rfl, fk_X7_175⟩
theorem fp_X7_175 : pm_fp RX7 175 7 22 false .int := ⟨(RX7, TX7, 29), rfl, by decide, rfl, fk_X7_175, rfl, by decide +kernel⟩
theorem fk_X7_178 : Cond.fieldLink RX7 178 RX7 (TX7 16).2.1 (TX7 16).2.2.1 ∈ pm_gw := pm_gw_of 776 (by decide +kernel) rfl
theorem fl_X7_178 : pm_fl RX7 178 7 16 := ⟨(RX7, TX7, 29), rfl, by decide, rfl, fk_X7_178⟩
theorem fp_X7_178 : pm_fp RX7 178 7 16 false .int := ⟨(RX7, TX7, 29), rfl, by decide, rfl, fk_X7_178, rfl, by decide +kernel⟩
theorem lk_X7_181 : Cond.methodLink RX7 181 yX7_goes ∈ pm_gw := pm_gw_of 963 (by decide +kernel) rfl
theorem fk_X7_184 : Cond.fieldLink RX7 184 RX7 (TX7 17).2.1 (TX7 17).2.2.1 ∈ pm_gw := pm_gw_of 777 (by decide +kernel) rfl
theorem fl_X7_184 : pm_fl RX7 184 7 17 := ⟨(RX7, TX7, 29), rfl, by decide, rfl, fk_X7_184⟩
theorem fp_X7_184 : pm_fp RX7 184 7 17 false .int := ⟨(RX7, TX7, 29), rfl, by decide, rfl, fk_X7_184, rfl, by decide +kernel⟩
theorem lk_X7_187 : Cond.methodLink RX7 187 yX7_isOfRing ∈ pm_gw := pm_gw_of 974 (by decide +kernel) rfl
theorem lk_X7_190 : Cond.methodLink RX7 190 yX7_notes ∈ pm_gw := pm_gw_of 967 (by decide +kernel) rfl
theorem lk_X7_194 : Cond.methodLink RX7 194 yX7_manyDone ∈ pm_gw := pm_gw_of 982 (by decide +kernel) rfl
theorem lk_X7_197 : Cond.methodLink RX7 197 yX7_built ∈ pm_gw := pm_gw_of 931 (by decide +kernel) rfl
theorem kc_X7_201 : Cond.constant RX7 201 (65535) ∈ pm_gw := pm_gw_of 990 (by decide +kernel) rfl
theorem kc_X7_202 : Cond.constantLong RX7 202 (65535) ∈ pm_gw := pm_gw_of 995 (by decide +kernel) rfl
theorem lk_X7_204 : Cond.methodLink RX7 204 yX7_pours ∈ pm_gw := pm_gw_of 1000 (by decide +kernel) rfl
theorem lk_X7_208 : Cond.methodLink RX7 208 yX7_isKey ∈ pm_gw := pm_gw_of 1007 (by decide +kernel) rfl
theorem lk_X7_211 : Cond.methodLink RX7 211 yX7_toldOf ∈ pm_gw := pm_gw_of 1010 (by decide +kernel) rfl
theorem kc_X7_214 : Cond.constantLong RX7 214 (2) ∈ pm_gw := pm_gw_of 1019 (by decide +kernel) rfl
theorem lk_X7_216 : Cond.methodLink RX7 216 yX7_causeOf ∈ pm_gw := pm_gw_of 1020 (by decide +kernel) rfl
theorem lk_X7_219 : Cond.methodLink RX7 219 yX7_amiss ∈ pm_gw := pm_gw_of 1040 (by decide +kernel) rfl
theorem lk_X7_222 : Cond.methodLink RX7 222 yX7_isTraced ∈ pm_gw := pm_gw_of 1052 (by decide +kernel) rfl
theorem lk_X7_226 : Cond.methodLink RX7 226 yJ9_max_7cf53 ∈ pm_gw := pm_gw_of 1060 (by decide +kernel) rfl
theorem lk_X7_231 : Cond.methodLink RX7 231 yX7_having ∈ pm_gw := pm_gw_of 1081 (by decide +kernel) rfl
theorem kc_X7_234 : Cond.constantLong RX7 234 (3) ∈ pm_gw := pm_gw_of 1092 (by decide +kernel) rfl
theorem lk_X7_236 : Cond.methodLink RX7 236 yX7_isList ∈ pm_gw := pm_gw_of 1089 (by decide +kernel) rfl
theorem kc_X7_239 : Cond.constantLong RX7 239 (-9223372036854775808) ∈ pm_gw := pm_gw_of 1101 (by decide +kernel) rfl
theorem fk_X7_241 : Cond.fieldLink RX7 241 RX7 (TX7 8).2.1 (TX7 8).2.2.1 ∈ pm_gw := pm_gw_of 768 (by decide +kernel) rfl
theorem fl_X7_241 : pm_fl RX7 241 7 8 := ⟨(RX7, TX7, 29), rfl, by decide, rfl, fk_X7_241⟩
theorem fp_X7_241 : pm_fp RX7 241 7 8 false .boolean := ⟨(RX7, TX7, 29), rfl, by decide, rfl, fk_X7_241, rfl, by decide +kernel⟩
theorem in_obj : Cond.instanceMethod objectInit ∈ pm_gw := pm_gw_of 53 (by decide +kernel) rfl
theorem co_obj : Cond.code objectInit ⟨#[0xb1]⟩ 1 none ∈ pm_gw := pm_gw_of 54 (by decide +kernel) rfl
theorem st_copy : Cond.static arraycopyName ∈ pm_gw := pm_gw_of 377 (by decide +kernel) rfl
theorem nat_copy : Cond.native arraycopyName ∈ pm_gw := pm_gw_of 378 (by decide +kernel) rfl
end
section
theorem dX0_init_0 : decode cX0_init 0 = .ok (.aload_n 0, 1) := by decide +kernel
theorem dX0_init_1 : decode cX0_init 1 = .ok (.invokespecial 3, 3) := by decide +kernel
theorem dX0_init_4 : decode cX0_init 4 = .ok (.aload_n 0, 1) := by decide +kernel
theorem dX0_init_5 : decode cX0_init 5 = .ok (.new 9, 3) := by decide +kernel
theorem dX0_init_8 : decode cX0_init 8 = .ok (.dup, 1) := by decide +kernel
theorem dX0_init_9 : decode cX0_init 9 = .ok (.invokespecial 11, 3) := by decide +kernel
theorem dX0_init_12 : decode cX0_init 12 = .ok (.putfield 12, 3) := by decide +kernel
theorem dX0_init_15 : decode cX0_init 15 = .ok (.aload_n 0, 1) := by decide +kernel
theorem dX0_init_16 : decode cX0_init 16 = .ok (.bipush 16, 2) := by decide +kernel
theorem dX0_init_18 : decode cX0_init 18 = .ok (.newarray .int, 2) := by decide +kernel
theorem dX0_init_20 : decode cX0_init 20 = .ok (.putfield 18, 3) := by decide +kernel
theorem dX0_init_23 : decode cX0_init 23 = .ok (.aload_n 0, 1) := by decide +kernel
theorem dX0_init_24 : decode cX0_init 24 = .ok (.bipush (-5), 2) := by decide +kernel
theorem dX0_init_26 : decode cX0_init 26 = .ok (.putfield 22, 3) := by decide +kernel
theorem dX0_init_29 : decode cX0_init 29 = .ok (.return_, 1) := by decide +kernel
theorem dX0_forgetBuild_0 : decode cX0_forgetBuild 0 = .ok (.aload_n 0, 1) := by decide +kernel
theorem dX0_forgetBuild_1 : decode cX0_forgetBuild 1 = .ok (.iconst 0, 1) := by decide +kernel
theorem dX0_forgetBuild_2 : decode cX0_forgetBuild 2 = .ok (.putfield 26, 3) := by decide +kernel
theorem dX0_forgetBuild_5 : decode cX0_forgetBuild 5 = .ok (.aload_n 0, 1) := by decide +kernel
theorem dX0_forgetBuild_6 : decode cX0_forgetBuild 6 = .ok (.iconst 0, 1) := by decide +kernel
theorem dX0_forgetBuild_7 : decode cX0_forgetBuild 7 = .ok (.putfield 29, 3) := by decide +kernel
theorem dX0_forgetBuild_10 : decode cX0_forgetBuild 10 = .ok (.aload_n 0, 1) := by decide +kernel
theorem dX0_forgetBuild_11 : decode cX0_forgetBuild 11 = .ok (.iconst 0, 1) := by decide +kernel
theorem dX0_forgetBuild_12 : decode cX0_forgetBuild 12 = .ok (.putfield 32, 3) := by decide +kernel
theorem dX0_forgetBuild_15 : decode cX0_forgetBuild 15 = .ok (.aload_n 0, 1) := by decide +kernel
theorem dX0_forgetBuild_16 : decode cX0_forgetBuild 16 = .ok (.bipush (-5), 2) := by decide +kernel
theorem dX0_forgetBuild_18 : decode cX0_forgetBuild 18 = .ok (.putfield 22, 3) := by decide +kernel
theorem dX0_forgetBuild_21 : decode cX0_forgetBuild 21 = .ok (.return_, 1) := by decide +kernel
theorem dX0_doneAt_0 : decode cX0_doneAt 0 = .ok (.iload_n 1, 1) := by decide +kernel
theorem dX0_doneAt_1 : decode cX0_doneAt 1 = .ok (.ifCond .lt 20, 3) := by decide +kernel
theorem dX0_doneAt_4 : decode cX0_doneAt 4 = .ok (.iload_n 1, 1) := by decide +kernel
theorem dX0_doneAt_5 : decode cX0_doneAt 5 = .ok (.aload_n 0, 1) := by decide +kernel
theorem dX0_doneAt_6 : decode cX0_doneAt 6 = .ok (.getfield 26, 3) := by decide +kernel
theorem dX0_doneAt_9 : decode cX0_doneAt 9 = .ok (.if_icmp .ge 12, 3) := by decide +kernel
theorem dX0_doneAt_12 : decode cX0_doneAt 12 = .ok (.aload_n 0, 1) := by decide +kernel
theorem dX0_doneAt_13 : decode cX0_doneAt 13 = .ok (.getfield 18, 3) := by decide +kernel
theorem dX0_doneAt_16 : decode cX0_doneAt 16 = .ok (.iload_n 1, 1) := by decide +kernel
theorem dX0_doneAt_17 : decode cX0_doneAt 17 = .ok (.iaload, 1) := by decide +kernel
theorem dX0_doneAt_18 : decode cX0_doneAt 18 = .ok (.goto 5, 3) := by decide +kernel
theorem dX0_doneAt_21 : decode cX0_doneAt 21 = .ok (.bipush (-5), 2) := by decide +kernel
theorem dX0_doneAt_23 : decode cX0_doneAt 23 = .ok (.ireturn, 1) := by decide +kernel
theorem dX0_startsFor_0 : decode cX0_startsFor 0 = .ok (.aload_n 0, 1) := by decide +kernel
theorem dX0_startsFor_1 : decode cX0_startsFor 1 = .ok (.getfield 35, 3) := by decide +kernel
theorem dX0_startsFor_4 : decode cX0_startsFor 4 = .ok (.istore_n 2, 1) := by decide +kernel
theorem dX0_startsFor_5 : decode cX0_startsFor 5 = .ok (.aload_n 0, 1) := by decide +kernel
theorem dX0_startsFor_6 : decode cX0_startsFor 6 = .ok (.iload_n 1, 1) := by decide +kernel
theorem dX0_startsFor_7 : decode cX0_startsFor 7 = .ok (.invokestatic 38, 3) := by decide +kernel
theorem dX0_startsFor_10 : decode cX0_startsFor 10 = .ok (.iconst 0, 1) := by decide +kernel
theorem dX0_startsFor_11 : decode cX0_startsFor 11 = .ok (.invokevirtual 42, 3) := by decide +kernel
theorem dX0_startsFor_14 : decode cX0_startsFor 14 = .ok (.pop, 1) := by decide +kernel
theorem dX0_startsFor_15 : decode cX0_startsFor 15 = .ok (.aload_n 0, 1) := by decide +kernel
theorem dX0_startsFor_16 : decode cX0_startsFor 16 = .ok (.getfield 35, 3) := by decide +kernel
theorem dX0_startsFor_19 : decode cX0_startsFor 19 = .ok (.iload_n 2, 1) := by decide +kernel
theorem dX0_startsFor_20 : decode cX0_startsFor 20 = .ok (.isub, 1) := by decide +kernel
theorem dX0_startsFor_21 : decode cX0_startsFor 21 = .ok (.ireturn, 1) := by decide +kernel
theorem dX0_buildEach_0 : decode cX0_buildEach 0 = .ok (.aload_n 0, 1) := by decide +kernel
theorem dX0_buildEach_1 : decode cX0_buildEach 1 = .ok (.invokevirtual 46, 3) := by decide +kernel
theorem dX0_buildEach_4 : decode cX0_buildEach 4 = .ok (.bipush 8, 2) := by decide +kernel
theorem dX0_buildEach_6 : decode cX0_buildEach 6 = .ok (.istore_n 3, 1) := by decide +kernel
theorem dX0_buildEach_7 : decode cX0_buildEach 7 = .ok (.iload_n 3, 1) := by decide +kernel
theorem dX0_buildEach_8 : decode cX0_buildEach 8 = .ok (.bipush 24, 2) := by decide +kernel
theorem dX0_buildEach_10 : decode cX0_buildEach 10 = .ok (.if_icmp .ge 49, 3) := by decide +kernel
theorem dX0_buildEach_13 : decode cX0_buildEach 13 = .ok (.iload_n 1, 1) := by decide +kernel
theorem dX0_buildEach_14 : decode cX0_buildEach 14 = .ok (.iload_n 3, 1) := by decide +kernel
theorem dX0_buildEach_15 : decode cX0_buildEach 15 = .ok (.invokestatic 49, 3) := by decide +kernel
theorem dX0_buildEach_18 : decode cX0_buildEach 18 = .ok (.ifCond .ne 6, 3) := by decide +kernel
theorem dX0_buildEach_21 : decode cX0_buildEach 21 = .ok (.goto 32, 3) := by decide +kernel
theorem dX0_buildEach_24 : decode cX0_buildEach 24 = .ok (.aload_n 0, 1) := by decide +kernel
theorem dX0_buildEach_25 : decode cX0_buildEach 25 = .ok (.iload_n 3, 1) := by decide +kernel
theorem dX0_buildEach_26 : decode cX0_buildEach 26 = .ok (.iconst 1, 1) := by decide +kernel
theorem dX0_buildEach_27 : decode cX0_buildEach 27 = .ok (.invokevirtual 53, 3) := by decide +kernel
theorem dX0_buildEach_30 : decode cX0_buildEach 30 = .ok (.iload_n 2, 1) := by decide +kernel
theorem dX0_buildEach_31 : decode cX0_buildEach 31 = .ok (.ifCond .eq 22, 3) := by decide +kernel
theorem dX0_buildEach_34 : decode cX0_buildEach 34 = .ok (.aload_n 0, 1) := by decide +kernel
theorem dX0_buildEach_35 : decode cX0_buildEach 35 = .ok (.getfield 12, 3) := by decide +kernel
theorem dX0_buildEach_38 : decode cX0_buildEach 38 = .ok (.iload_n 3, 1) := by decide +kernel
theorem dX0_buildEach_39 : decode cX0_buildEach 39 = .ok (.invokevirtual 57, 3) := by decide +kernel
theorem dX0_buildEach_42 : decode cX0_buildEach 42 = .ok (.ifnull 11, 3) := by decide +kernel
theorem dX0_buildEach_45 : decode cX0_buildEach 45 = .ok (.aload_n 0, 1) := by decide +kernel
theorem dX0_buildEach_46 : decode cX0_buildEach 46 = .ok (.iload_n 3, 1) := by decide +kernel
theorem dX0_buildEach_47 : decode cX0_buildEach 47 = .ok (.putfield 22, 3) := by decide +kernel
theorem dX0_buildEach_50 : decode cX0_buildEach 50 = .ok (.goto 9, 3) := by decide +kernel
theorem dX0_buildEach_53 : decode cX0_buildEach 53 = .ok (.iinc 3 1, 3) := by decide +kernel
theorem dX0_buildEach_56 : decode cX0_buildEach 56 = .ok (.goto (-49), 3) := by decide +kernel
theorem dX0_buildEach_59 : decode cX0_buildEach 59 = .ok (.aload_n 0, 1) := by decide +kernel
theorem dX0_buildEach_60 : decode cX0_buildEach 60 = .ok (.getfield 26, 3) := by decide +kernel
theorem dX0_buildEach_63 : decode cX0_buildEach 63 = .ok (.ireturn, 1) := by decide +kernel
theorem dX0_buildTarget_0 : decode cX0_buildTarget 0 = .ok (.aload_n 0, 1) := by decide +kernel
theorem dX0_buildTarget_1 : decode cX0_buildTarget 1 = .ok (.getfield 12, 3) := by decide +kernel
theorem dX0_buildTarget_4 : decode cX0_buildTarget 4 = .ok (.iload_n 1, 1) := by decide +kernel
theorem dX0_buildTarget_5 : decode cX0_buildTarget 5 = .ok (.invokevirtual 61, 3) := by decide +kernel
theorem dX0_buildTarget_8 : decode cX0_buildTarget 8 = .ok (.astore_n 3, 1) := by decide +kernel
theorem dX0_buildTarget_9 : decode cX0_buildTarget 9 = .ok (.aload_n 3, 1) := by decide +kernel
theorem dX0_buildTarget_10 : decode cX0_buildTarget 10 = .ok (.ifnull 25, 3) := by decide +kernel
theorem dX0_buildTarget_13 : decode cX0_buildTarget 13 = .ok (.aload_n 0, 1) := by decide +kernel
theorem dX0_buildTarget_14 : decode cX0_buildTarget 14 = .ok (.getfield 29, 3) := by decide +kernel
theorem dX0_buildTarget_17 : decode cX0_buildTarget 17 = .ok (.aload_n 0, 1) := by decide +kernel
theorem dX0_buildTarget_18 : decode cX0_buildTarget 18 = .ok (.getfield 32, 3) := by decide +kernel
theorem dX0_buildTarget_21 : decode cX0_buildTarget 21 = .ok (.ior, 1) := by decide +kernel
theorem dX0_buildTarget_22 : decode cX0_buildTarget 22 = .ok (.iload_n 1, 1) := by decide +kernel
theorem dX0_buildTarget_23 : decode cX0_buildTarget 23 = .ok (.invokestatic 49, 3) := by decide +kernel
theorem dX0_buildTarget_26 : decode cX0_buildTarget 26 = .ok (.ifCond .ne 9, 3) := by decide +kernel
theorem dX0_buildTarget_29 : decode cX0_buildTarget 29 = .ok (.iload_n 2, 1) := by decide +kernel
theorem dX0_buildTarget_30 : decode cX0_buildTarget 30 = .ok (.bipush 16, 2) := by decide +kernel
theorem dX0_buildTarget_32 : decode cX0_buildTarget 32 = .ok (.if_icmp .le 4, 3) := by decide +kernel
theorem dX0_buildTarget_35 : decode cX0_buildTarget 35 = .ok (.return_, 1) := by decide +kernel
theorem dX0_buildTarget_36 : decode cX0_buildTarget 36 = .ok (.aload_n 0, 1) := by decide +kernel
theorem dX0_buildTarget_37 : decode cX0_buildTarget 37 = .ok (.dup, 1) := by decide +kernel
theorem dX0_buildTarget_38 : decode cX0_buildTarget 38 = .ok (.getfield 32, 3) := by decide +kernel
theorem dX0_buildTarget_41 : decode cX0_buildTarget 41 = .ok (.iload_n 1, 1) := by decide +kernel
theorem dX0_buildTarget_42 : decode cX0_buildTarget 42 = .ok (.invokestatic 38, 3) := by decide +kernel
theorem dX0_buildTarget_45 : decode cX0_buildTarget 45 = .ok (.ior, 1) := by decide +kernel
theorem dX0_buildTarget_46 : decode cX0_buildTarget 46 = .ok (.putfield 32, 3) := by decide +kernel
theorem dX0_buildTarget_49 : decode cX0_buildTarget 49 = .ok (.aload_n 3, 1) := by decide +kernel
theorem dX0_buildTarget_50 : decode cX0_buildTarget 50 = .ok (.getfield 65, 3) := by decide +kernel
theorem dX0_buildTarget_53 : decode cX0_buildTarget 53 = .ok (.ifCond .ne 18, 3) := by decide +kernel
theorem dX0_buildTarget_56 : decode cX0_buildTarget 56 = .ok (.aload_n 3, 1) := by decide +kernel
theorem dX0_buildTarget_57 : decode cX0_buildTarget 57 = .ok (.aload_n 0, 1) := by decide +kernel
theorem dX0_buildTarget_58 : decode cX0_buildTarget 58 = .ok (.getfield 12, 3) := by decide +kernel
theorem dX0_buildTarget_61 : decode cX0_buildTarget 61 = .ok (.iload_n 1, 1) := by decide +kernel
theorem dX0_buildTarget_62 : decode cX0_buildTarget 62 = .ok (.invokevirtual 70, 3) := by decide +kernel
theorem dX0_buildTarget_65 : decode cX0_buildTarget 65 = .ok (.putfield 73, 3) := by decide +kernel
theorem dX0_buildTarget_68 : decode cX0_buildTarget 68 = .ok (.goto 32, 3) := by decide +kernel
theorem dX0_buildTarget_71 : decode cX0_buildTarget 71 = .ok (.aload_n 0, 1) := by decide +kernel
theorem dX0_buildTarget_72 : decode cX0_buildTarget 72 = .ok (.aload_n 3, 1) := by decide +kernel
theorem dX0_buildTarget_73 : decode cX0_buildTarget 73 = .ok (.iload_n 2, 1) := by decide +kernel
theorem dX0_buildTarget_74 : decode cX0_buildTarget 74 = .ok (.invokevirtual 77, 3) := by decide +kernel
theorem dX0_buildTarget_77 : decode cX0_buildTarget 77 = .ok (.ifCond .eq 16, 3) := by decide +kernel
theorem dX0_buildTarget_80 : decode cX0_buildTarget 80 = .ok (.aload_n 0, 1) := by decide +kernel
theorem dX0_buildTarget_81 : decode cX0_buildTarget 81 = .ok (.dup, 1) := by decide +kernel
theorem dX0_buildTarget_82 : decode cX0_buildTarget 82 = .ok (.getfield 81, 3) := by decide +kernel
theorem dX0_buildTarget_85 : decode cX0_buildTarget 85 = .ok (.iconst 1, 1) := by decide +kernel
theorem dX0_buildTarget_86 : decode cX0_buildTarget 86 = .ok (.iadd, 1) := by decide +kernel
theorem dX0_buildTarget_87 : decode cX0_buildTarget 87 = .ok (.putfield 81, 3) := by decide +kernel
theorem dX0_buildTarget_90 : decode cX0_buildTarget 90 = .ok (.goto 10, 3) := by decide +kernel
theorem dX0_buildTarget_93 : decode cX0_buildTarget 93 = .ok (.aload_n 0, 1) := by decide +kernel
theorem dX0_buildTarget_94 : decode cX0_buildTarget 94 = .ok (.iload_n 1, 1) := by decide +kernel
theorem dX0_buildTarget_95 : decode cX0_buildTarget 95 = .ok (.aload_n 3, 1) := by decide +kernel
theorem dX0_buildTarget_96 : decode cX0_buildTarget 96 = .ok (.iload_n 2, 1) := by decide +kernel
theorem dX0_buildTarget_97 : decode cX0_buildTarget 97 = .ok (.invokevirtual 84, 3) := by decide +kernel
theorem dX0_buildTarget_100 : decode cX0_buildTarget 100 = .ok (.aload_n 0, 1) := by decide +kernel
theorem dX0_buildTarget_101 : decode cX0_buildTarget 101 = .ok (.dup, 1) := by decide +kernel
theorem dX0_buildTarget_102 : decode cX0_buildTarget 102 = .ok (.getfield 32, 3) := by decide +kernel
theorem dX0_buildTarget_105 : decode cX0_buildTarget 105 = .ok (.iload_n 1, 1) := by decide +kernel
theorem dX0_buildTarget_106 : decode cX0_buildTarget 106 = .ok (.invokestatic 38, 3) := by decide +kernel
theorem dX0_buildTarget_109 : decode cX0_buildTarget 109 = .ok (.iconst (-1), 1) := by decide +kernel
theorem dX0_buildTarget_110 : decode cX0_buildTarget 110 = .ok (.ixor, 1) := by decide +kernel
theorem dX0_buildTarget_111 : decode cX0_buildTarget 111 = .ok (.iand, 1) := by decide +kernel
theorem dX0_buildTarget_112 : decode cX0_buildTarget 112 = .ok (.putfield 32, 3) := by decide +kernel
theorem dX0_buildTarget_115 : decode cX0_buildTarget 115 = .ok (.aload_n 0, 1) := by decide +kernel
theorem dX0_buildTarget_116 : decode cX0_buildTarget 116 = .ok (.iload_n 1, 1) := by decide +kernel
theorem dX0_buildTarget_117 : decode cX0_buildTarget 117 = .ok (.invokevirtual 88, 3) := by decide +kernel
theorem dX0_buildTarget_120 : decode cX0_buildTarget 120 = .ok (.return_, 1) := by decide +kernel
theorem dX0_noteDone_0 : decode cX0_noteDone 0 = .ok (.aload_n 0, 1) := by decide +kernel
theorem dX0_noteDone_1 : decode cX0_noteDone 1 = .ok (.getfield 26, 3) := by decide +kernel
theorem dX0_noteDone_4 : decode cX0_noteDone 4 = .ok (.ifCond .lt 32, 3) := by decide +kernel
theorem dX0_noteDone_7 : decode cX0_noteDone 7 = .ok (.aload_n 0, 1) := by decide +kernel
theorem dX0_noteDone_8 : decode cX0_noteDone 8 = .ok (.getfield 26, 3) := by decide +kernel
theorem dX0_noteDone_11 : decode cX0_noteDone 11 = .ok (.bipush 16, 2) := by decide +kernel
theorem dX0_noteDone_13 : decode cX0_noteDone 13 = .ok (.if_icmp .ge 23, 3) := by decide +kernel
theorem dX0_noteDone_16 : decode cX0_noteDone 16 = .ok (.aload_n 0, 1) := by decide +kernel
theorem dX0_noteDone_17 : decode cX0_noteDone 17 = .ok (.getfield 18, 3) := by decide +kernel
theorem dX0_noteDone_20 : decode cX0_noteDone 20 = .ok (.aload_n 0, 1) := by decide +kernel
theorem dX0_noteDone_21 : decode cX0_noteDone 21 = .ok (.getfield 26, 3) := by decide +kernel
theorem dX0_noteDone_24 : decode cX0_noteDone 24 = .ok (.iload_n 1, 1) := by decide +kernel
theorem dX0_noteDone_25 : decode cX0_noteDone 25 = .ok (.iastore, 1) := by decide +kernel
theorem dX0_noteDone_26 : decode cX0_noteDone 26 = .ok (.aload_n 0, 1) := by decide +kernel
theorem dX0_noteDone_27 : decode cX0_noteDone 27 = .ok (.dup, 1) := by decide +kernel
theorem dX0_noteDone_28 : decode cX0_noteDone 28 = .ok (.getfield 26, 3) := by decide +kernel
theorem dX0_noteDone_31 : decode cX0_noteDone 31 = .ok (.iconst 1, 1) := by decide +kernel
theorem dX0_noteDone_32 : decode cX0_noteDone 32 = .ok (.iadd, 1) := by decide +kernel
theorem dX0_noteDone_33 : decode cX0_noteDone 33 = .ok (.putfield 26, 3) := by decide +kernel
theorem dX0_noteDone_36 : decode cX0_noteDone 36 = .ok (.aload_n 0, 1) := by decide +kernel
theorem dX0_noteDone_37 : decode cX0_noteDone 37 = .ok (.dup, 1) := by decide +kernel
theorem dX0_noteDone_38 : decode cX0_noteDone 38 = .ok (.getfield 29, 3) := by decide +kernel
theorem dX0_noteDone_41 : decode cX0_noteDone 41 = .ok (.iload_n 1, 1) := by decide +kernel
theorem dX0_noteDone_42 : decode cX0_noteDone 42 = .ok (.invokestatic 38, 3) := by decide +kernel
theorem dX0_noteDone_45 : decode cX0_noteDone 45 = .ok (.ior, 1) := by decide +kernel
theorem dX0_noteDone_46 : decode cX0_noteDone 46 = .ok (.putfield 29, 3) := by decide +kernel
theorem dX0_noteDone_49 : decode cX0_noteDone 49 = .ok (.return_, 1) := by decide +kernel
theorem dX0_isStillSame_0 : decode cX0_isStillSame 0 = .ok (.aload_n 1, 1) := by decide +kernel
theorem dX0_isStillSame_1 : decode cX0_isStillSame 1 = .ok (.invokevirtual 92, 3) := by decide +kernel
theorem dX0_isStillSame_4 : decode cX0_isStillSame 4 = .ok (.ifCond .ne 5, 3) := by decide +kernel
theorem dX0_isStillSame_7 : decode cX0_isStillSame 7 = .ok (.iconst 0, 1) := by decide +kernel
theorem dX0_isStillSame_8 : decode cX0_isStillSame 8 = .ok (.ireturn, 1) := by decide +kernel
theorem dX0_isStillSame_9 : decode cX0_isStillSame 9 = .ok (.iconst 0, 1) := by decide +kernel
theorem dX0_isStillSame_10 : decode cX0_isStillSame 10 = .ok (.istore_n 3, 1) := by decide +kernel
theorem dX0_isStillSame_11 : decode cX0_isStillSame 11 = .ok (.iload_n 3, 1) := by decide +kernel
theorem dX0_isStillSame_12 : decode cX0_isStillSame 12 = .ok (.aload_n 1, 1) := by decide +kernel
theorem dX0_isStillSame_13 : decode cX0_isStillSame 13 = .ok (.getfield 96, 3) := by decide +kernel
theorem dX0_isStillSame_16 : decode cX0_isStillSame 16 = .ok (.if_icmp .ge 61, 3) := by decide +kernel
theorem dX0_isStillSame_19 : decode cX0_isStillSame 19 = .ok (.aload_n 1, 1) := by decide +kernel
theorem dX0_isStillSame_20 : decode cX0_isStillSame 20 = .ok (.iload_n 3, 1) := by decide +kernel
theorem dX0_isStillSame_21 : decode cX0_isStillSame 21 = .ok (.invokevirtual 99, 3) := by decide +kernel
theorem dX0_isStillSame_24 : decode cX0_isStillSame 24 = .ok (.istore 4, 2) := by decide +kernel
theorem dX0_isStillSame_26 : decode cX0_isStillSame 26 = .ok (.aload_n 0, 1) := by decide +kernel
theorem dX0_isStillSame_27 : decode cX0_isStillSame 27 = .ok (.getfield 32, 3) := by decide +kernel
theorem dX0_isStillSame_30 : decode cX0_isStillSame 30 = .ok (.iload 4, 2) := by decide +kernel
theorem dX0_isStillSame_32 : decode cX0_isStillSame 32 = .ok (.invokestatic 49, 3) := by decide +kernel
theorem dX0_isStillSame_35 : decode cX0_isStillSame 35 = .ok (.ifCond .eq 5, 3) := by decide +kernel
theorem dX0_isStillSame_38 : decode cX0_isStillSame 38 = .ok (.iconst 0, 1) := by decide +kernel
theorem dX0_isStillSame_39 : decode cX0_isStillSame 39 = .ok (.ireturn, 1) := by decide +kernel
theorem dX0_isStillSame_40 : decode cX0_isStillSame 40 = .ok (.aload_n 0, 1) := by decide +kernel
theorem dX0_isStillSame_41 : decode cX0_isStillSame 41 = .ok (.iload 4, 2) := by decide +kernel
theorem dX0_isStillSame_43 : decode cX0_isStillSame 43 = .ok (.iload_n 2, 1) := by decide +kernel
theorem dX0_isStillSame_44 : decode cX0_isStillSame 44 = .ok (.iconst 1, 1) := by decide +kernel
theorem dX0_isStillSame_45 : decode cX0_isStillSame 45 = .ok (.iadd, 1) := by decide +kernel
theorem dX0_isStillSame_46 : decode cX0_isStillSame 46 = .ok (.invokevirtual 53, 3) := by decide +kernel
theorem dX0_isStillSame_49 : decode cX0_isStillSame 49 = .ok (.aload_n 0, 1) := by decide +kernel
theorem dX0_isStillSame_50 : decode cX0_isStillSame 50 = .ok (.getfield 12, 3) := by decide +kernel
theorem dX0_isStillSame_53 : decode cX0_isStillSame 53 = .ok (.iload 4, 2) := by decide +kernel
theorem dX0_isStillSame_55 : decode cX0_isStillSame 55 = .ok (.invokevirtual 102, 3) := by decide +kernel
theorem dX0_isStillSame_58 : decode cX0_isStillSame 58 = .ok (.aload_n 1, 1) := by decide +kernel
theorem dX0_isStillSame_59 : decode cX0_isStillSame 59 = .ok (.iload_n 3, 1) := by decide +kernel
theorem dX0_isStillSame_60 : decode cX0_isStillSame 60 = .ok (.invokevirtual 105, 3) := by decide +kernel
theorem dX0_isStillSame_63 : decode cX0_isStillSame 63 = .ok (.invokestatic 108, 3) := by decide +kernel
theorem dX0_isStillSame_66 : decode cX0_isStillSame 66 = .ok (.ifCond .ne 5, 3) := by decide +kernel
theorem dX0_isStillSame_69 : decode cX0_isStillSame 69 = .ok (.iconst 0, 1) := by decide +kernel
theorem dX0_isStillSame_70 : decode cX0_isStillSame 70 = .ok (.ireturn, 1) := by decide +kernel
theorem dX0_isStillSame_71 : decode cX0_isStillSame 71 = .ok (.iinc 3 1, 3) := by decide +kernel
theorem dX0_isStillSame_74 : decode cX0_isStillSame 74 = .ok (.goto (-63), 3) := by decide +kernel
theorem dX0_isStillSame_77 : decode cX0_isStillSame 77 = .ok (.iconst 1, 1) := by decide +kernel
theorem dX0_isStillSame_78 : decode cX0_isStillSame 78 = .ok (.ireturn, 1) := by decide +kernel
theorem dX0_runToEnd_0 : decode cX0_runToEnd 0 = .ok (.aload_n 0, 1) := by decide +kernel
theorem dX0_runToEnd_1 : decode cX0_runToEnd 1 = .ok (.iload_n 1, 1) := by decide +kernel
theorem dX0_runToEnd_2 : decode cX0_runToEnd 2 = .ok (.aload_n 2, 1) := by decide +kernel
theorem dX0_runToEnd_3 : decode cX0_runToEnd 3 = .ok (.invokevirtual 114, 3) := by decide +kernel
theorem dX0_runToEnd_6 : decode cX0_runToEnd 6 = .ok (.astore 4, 2) := by decide +kernel
theorem dX0_runToEnd_8 : decode cX0_runToEnd 8 = .ok (.iconst 0, 1) := by decide +kernel
theorem dX0_runToEnd_9 : decode cX0_runToEnd 9 = .ok (.istore 5, 2) := by decide +kernel
theorem dX0_runToEnd_11 : decode cX0_runToEnd 11 = .ok (.aload 4, 2) := by decide +kernel
theorem dX0_runToEnd_13 : decode cX0_runToEnd 13 = .ok (.ifnonnull 45, 3) := by decide +kernel
theorem dX0_runToEnd_16 : decode cX0_runToEnd 16 = .ok (.iload 5, 2) := by decide +kernel
theorem dX0_runToEnd_18 : decode cX0_runToEnd 18 = .ok (.bipush 16, 2) := by decide +kernel
theorem dX0_runToEnd_20 : decode cX0_runToEnd 20 = .ok (.if_icmp .ge 38, 3) := by decide +kernel
theorem dX0_runToEnd_23 : decode cX0_runToEnd 23 = .ok (.aload_n 0, 1) := by decide +kernel
theorem dX0_runToEnd_24 : decode cX0_runToEnd 24 = .ok (.dup, 1) := by decide +kernel
theorem dX0_runToEnd_25 : decode cX0_runToEnd 25 = .ok (.getfield 118, 3) := by decide +kernel
theorem dX0_runToEnd_28 : decode cX0_runToEnd 28 = .ok (.iconst 1, 1) := by decide +kernel
theorem dX0_runToEnd_29 : decode cX0_runToEnd 29 = .ok (.iadd, 1) := by decide +kernel
theorem dX0_runToEnd_30 : decode cX0_runToEnd 30 = .ok (.putfield 118, 3) := by decide +kernel
theorem dX0_runToEnd_33 : decode cX0_runToEnd 33 = .ok (.aload_n 0, 1) := by decide +kernel
theorem dX0_runToEnd_34 : decode cX0_runToEnd 34 = .ok (.aload_n 0, 1) := by decide +kernel
theorem dX0_runToEnd_35 : decode cX0_runToEnd 35 = .ok (.getfield 121, 3) := by decide +kernel
theorem dX0_runToEnd_38 : decode cX0_runToEnd 38 = .ok (.iload_n 3, 1) := by decide +kernel
theorem dX0_runToEnd_39 : decode cX0_runToEnd 39 = .ok (.iconst 1, 1) := by decide +kernel
theorem dX0_runToEnd_40 : decode cX0_runToEnd 40 = .ok (.iadd, 1) := by decide +kernel
theorem dX0_runToEnd_41 : decode cX0_runToEnd 41 = .ok (.invokevirtual 53, 3) := by decide +kernel
theorem dX0_runToEnd_44 : decode cX0_runToEnd 44 = .ok (.aload_n 0, 1) := by decide +kernel
theorem dX0_runToEnd_45 : decode cX0_runToEnd 45 = .ok (.iload_n 1, 1) := by decide +kernel
theorem dX0_runToEnd_46 : decode cX0_runToEnd 46 = .ok (.aload_n 2, 1) := by decide +kernel
theorem dX0_runToEnd_47 : decode cX0_runToEnd 47 = .ok (.invokevirtual 114, 3) := by decide +kernel
theorem dX0_runToEnd_50 : decode cX0_runToEnd 50 = .ok (.astore 4, 2) := by decide +kernel
theorem dX0_runToEnd_52 : decode cX0_runToEnd 52 = .ok (.iinc 5 1, 3) := by decide +kernel
theorem dX0_runToEnd_55 : decode cX0_runToEnd 55 = .ok (.goto (-44), 3) := by decide +kernel
theorem dX0_runToEnd_58 : decode cX0_runToEnd 58 = .ok (.aload 4, 2) := by decide +kernel
theorem dX0_runToEnd_60 : decode cX0_runToEnd 60 = .ok (.ifnonnull 4, 3) := by decide +kernel
theorem dX0_runToEnd_63 : decode cX0_runToEnd 63 = .ok (.return_, 1) := by decide +kernel
theorem dX0_runToEnd_64 : decode cX0_runToEnd 64 = .ok (.aload_n 2, 1) := by decide +kernel
theorem dX0_runToEnd_65 : decode cX0_runToEnd 65 = .ok (.getfield 73, 3) := by decide +kernel
theorem dX0_runToEnd_68 : decode cX0_runToEnd 68 = .ok (.aload 4, 2) := by decide +kernel
theorem dX0_runToEnd_70 : decode cX0_runToEnd 70 = .ok (.invokestatic 108, 3) := by decide +kernel
theorem dX0_runToEnd_73 : decode cX0_runToEnd 73 = .ok (.ifCond .eq 13, 3) := by decide +kernel
theorem dX0_runToEnd_76 : decode cX0_runToEnd 76 = .ok (.aload_n 0, 1) := by decide +kernel
theorem dX0_runToEnd_77 : decode cX0_runToEnd 77 = .ok (.dup, 1) := by decide +kernel
theorem dX0_runToEnd_78 : decode cX0_runToEnd 78 = .ok (.getfield 124, 3) := by decide +kernel
theorem dX0_runToEnd_81 : decode cX0_runToEnd 81 = .ok (.iconst 1, 1) := by decide +kernel
theorem dX0_runToEnd_82 : decode cX0_runToEnd 82 = .ok (.iadd, 1) := by decide +kernel
theorem dX0_runToEnd_83 : decode cX0_runToEnd 83 = .ok (.putfield 124, 3) := by decide +kernel
theorem dX0_runToEnd_86 : decode cX0_runToEnd 86 = .ok (.aload_n 2, 1) := by decide +kernel
theorem dX0_runToEnd_87 : decode cX0_runToEnd 87 = .ok (.aload 4, 2) := by decide +kernel
theorem dX0_runToEnd_89 : decode cX0_runToEnd 89 = .ok (.putfield 73, 3) := by decide +kernel
theorem dX0_runToEnd_92 : decode cX0_runToEnd 92 = .ok (.aload 4, 2) := by decide +kernel
theorem dX0_runToEnd_94 : decode cX0_runToEnd 94 = .ok (.iconst 1, 1) := by decide +kernel
theorem dX0_runToEnd_95 : decode cX0_runToEnd 95 = .ok (.invokevirtual 127, 3) := by decide +kernel
theorem dX0_runToEnd_98 : decode cX0_runToEnd 98 = .ok (.ifCond .eq 7, 3) := by decide +kernel
theorem dX0_runToEnd_101 : decode cX0_runToEnd 101 = .ok (.aload_n 2, 1) := by decide +kernel
theorem dX0_runToEnd_102 : decode cX0_runToEnd 102 = .ok (.invokevirtual 131, 3) := by decide +kernel
theorem dX0_runToEnd_105 : decode cX0_runToEnd 105 = .ok (.return_, 1) := by decide +kernel
theorem dX0_runOnce_0 : decode cX0_runOnce 0 = .ok (.aload_n 0, 1) := by decide +kernel
theorem dX0_runOnce_1 : decode cX0_runOnce 1 = .ok (.dup, 1) := by decide +kernel
theorem dX0_runOnce_2 : decode cX0_runOnce 2 = .ok (.getfield 35, 3) := by decide +kernel
theorem dX0_runOnce_5 : decode cX0_runOnce 5 = .ok (.iconst 1, 1) := by decide +kernel
theorem dX0_runOnce_6 : decode cX0_runOnce 6 = .ok (.iadd, 1) := by decide +kernel
theorem dX0_runOnce_7 : decode cX0_runOnce 7 = .ok (.putfield 35, 3) := by decide +kernel
theorem dX0_runOnce_10 : decode cX0_runOnce 10 = .ok (.aload_n 2, 1) := by decide +kernel
theorem dX0_runOnce_11 : decode cX0_runOnce 11 = .ok (.invokevirtual 134, 3) := by decide +kernel
theorem dX0_runOnce_14 : decode cX0_runOnce 14 = .ok (.lconst 0, 1) := by decide +kernel
theorem dX0_runOnce_15 : decode cX0_runOnce 15 = .ok (.lstore_n 3, 1) := by decide +kernel
theorem dX0_runOnce_16 : decode cX0_runOnce 16 = .ok (.iconst 0, 1) := by decide +kernel
theorem dX0_runOnce_17 : decode cX0_runOnce 17 = .ok (.istore 5, 2) := by decide +kernel
theorem dX0_runOnce_19 : decode cX0_runOnce 19 = .ok (.iconst 0, 1) := by decide +kernel
theorem dX0_runOnce_20 : decode cX0_runOnce 20 = .ok (.istore 6, 2) := by decide +kernel
theorem dX0_runOnce_22 : decode cX0_runOnce 22 = .ok (.iload 6, 2) := by decide +kernel
theorem dX0_runOnce_24 : decode cX0_runOnce 24 = .ok (.aload_n 2, 1) := by decide +kernel
theorem dX0_runOnce_25 : decode cX0_runOnce 25 = .ok (.getfield 65, 3) := by decide +kernel
theorem dX0_runOnce_28 : decode cX0_runOnce 28 = .ok (.if_icmp .ge 175, 3) := by decide +kernel
theorem dX0_runOnce_31 : decode cX0_runOnce 31 = .ok (.iload 5, 2) := by decide +kernel
theorem dX0_runOnce_33 : decode cX0_runOnce 33 = .ok (.ifCond .le 9, 3) := by decide +kernel
theorem dX0_runOnce_36 : decode cX0_runOnce 36 = .ok (.iinc 5 (-1), 3) := by decide +kernel
theorem dX0_runOnce_39 : decode cX0_runOnce 39 = .ok (.goto 158, 3) := by decide +kernel
theorem dX0_runOnce_42 : decode cX0_runOnce 42 = .ok (.aload_n 2, 1) := by decide +kernel
theorem dX0_runOnce_43 : decode cX0_runOnce 43 = .ok (.iload 6, 2) := by decide +kernel
theorem dX0_runOnce_45 : decode cX0_runOnce 45 = .ok (.invokevirtual 137, 3) := by decide +kernel
theorem dX0_runOnce_48 : decode cX0_runOnce 48 = .ok (.istore 7, 2) := by decide +kernel
theorem dX0_runOnce_50 : decode cX0_runOnce 50 = .ok (.aload_n 2, 1) := by decide +kernel
theorem dX0_runOnce_51 : decode cX0_runOnce 51 = .ok (.iload 6, 2) := by decide +kernel
theorem dX0_runOnce_53 : decode cX0_runOnce 53 = .ok (.invokevirtual 140, 3) := by decide +kernel
theorem dX0_runOnce_56 : decode cX0_runOnce 56 = .ok (.istore 8, 2) := by decide +kernel
theorem dX0_runOnce_58 : decode cX0_runOnce 58 = .ok (.iload 8, 2) := by decide +kernel
theorem dX0_runOnce_60 : decode cX0_runOnce 60 = .ok (.i2l, 1) := by decide +kernel
theorem dX0_runOnce_61 : decode cX0_runOnce 61 = .ok (.lstore 9, 2) := by decide +kernel
theorem dX0_runOnce_63 : decode cX0_runOnce 63 = .ok (.iload 7, 2) := by decide +kernel
theorem dX0_runOnce_65 : decode cX0_runOnce 65 = .ok (.invokestatic 143, 3) := by decide +kernel
theorem dX0_runOnce_68 : decode cX0_runOnce 68 = .ok (.ifCond .eq 79, 3) := by decide +kernel
theorem dX0_runOnce_71 : decode cX0_runOnce 71 = .ok (.aload_n 0, 1) := by decide +kernel
theorem dX0_runOnce_72 : decode cX0_runOnce 72 = .ok (.getfield 32, 3) := by decide +kernel
theorem dX0_runOnce_75 : decode cX0_runOnce 75 = .ok (.iload 8, 2) := by decide +kernel
theorem dX0_runOnce_77 : decode cX0_runOnce 77 = .ok (.invokestatic 49, 3) := by decide +kernel
theorem dX0_runOnce_80 : decode cX0_runOnce 80 = .ok (.ifCond .eq 12, 3) := by decide +kernel
theorem dX0_runOnce_83 : decode cX0_runOnce 83 = .ok (.iload_n 1, 1) := by decide +kernel
theorem dX0_runOnce_84 : decode cX0_runOnce 84 = .ok (.iconst 1, 1) := by decide +kernel
theorem dX0_runOnce_85 : decode cX0_runOnce 85 = .ok (.iload 6, 2) := by decide +kernel
theorem dX0_runOnce_87 : decode cX0_runOnce 87 = .ok (.aconst_null, 1) := by decide +kernel
theorem dX0_runOnce_88 : decode cX0_runOnce 88 = .ok (.invokestatic 146, 3) := by decide +kernel
theorem dX0_runOnce_91 : decode cX0_runOnce 91 = .ok (.areturn, 1) := by decide +kernel
theorem dX0_runOnce_92 : decode cX0_runOnce 92 = .ok (.aload_n 0, 1) := by decide +kernel
theorem dX0_runOnce_93 : decode cX0_runOnce 93 = .ok (.iload 8, 2) := by decide +kernel
theorem dX0_runOnce_95 : decode cX0_runOnce 95 = .ok (.invokevirtual 150, 3) := by decide +kernel
theorem dX0_runOnce_98 : decode cX0_runOnce 98 = .ok (.astore 11, 2) := by decide +kernel
theorem dX0_runOnce_100 : decode cX0_runOnce 100 = .ok (.aload 11, 2) := by decide +kernel
theorem dX0_runOnce_102 : decode cX0_runOnce 102 = .ok (.ifnonnull 11, 3) := by decide +kernel
theorem dX0_runOnce_105 : decode cX0_runOnce 105 = .ok (.aload_n 0, 1) := by decide +kernel
theorem dX0_runOnce_106 : decode cX0_runOnce 106 = .ok (.iload 8, 2) := by decide +kernel
theorem dX0_runOnce_108 : decode cX0_runOnce 108 = .ok (.putfield 121, 3) := by decide +kernel
theorem dX0_runOnce_111 : decode cX0_runOnce 111 = .ok (.aconst_null, 1) := by decide +kernel
theorem dX0_runOnce_112 : decode cX0_runOnce 112 = .ok (.areturn, 1) := by decide +kernel
theorem dX0_runOnce_113 : decode cX0_runOnce 113 = .ok (.aload_n 2, 1) := by decide +kernel
theorem dX0_runOnce_114 : decode cX0_runOnce 114 = .ok (.iload 8, 2) := by decide +kernel
theorem dX0_runOnce_116 : decode cX0_runOnce 116 = .ok (.aload 11, 2) := by decide +kernel
theorem dX0_runOnce_118 : decode cX0_runOnce 118 = .ok (.invokevirtual 153, 3) := by decide +kernel
theorem dX0_runOnce_121 : decode cX0_runOnce 121 = .ok (.aload 11, 2) := by decide +kernel
theorem dX0_runOnce_123 : decode cX0_runOnce 123 = .ok (.invokevirtual 157, 3) := by decide +kernel
theorem dX0_runOnce_126 : decode cX0_runOnce 126 = .ok (.ifCond .eq 13, 3) := by decide +kernel
theorem dX0_runOnce_129 : decode cX0_runOnce 129 = .ok (.iload_n 1, 1) := by decide +kernel
theorem dX0_runOnce_130 : decode cX0_runOnce 130 = .ok (.iconst 5, 1) := by decide +kernel
theorem dX0_runOnce_131 : decode cX0_runOnce 131 = .ok (.iload 6, 2) := by decide +kernel
theorem dX0_runOnce_133 : decode cX0_runOnce 133 = .ok (.aload 11, 2) := by decide +kernel
theorem dX0_runOnce_135 : decode cX0_runOnce 135 = .ok (.invokestatic 146, 3) := by decide +kernel
theorem dX0_runOnce_138 : decode cX0_runOnce 138 = .ok (.areturn, 1) := by decide +kernel
theorem dX0_runOnce_139 : decode cX0_runOnce 139 = .ok (.aload 11, 2) := by decide +kernel
theorem dX0_runOnce_141 : decode cX0_runOnce 141 = .ok (.getfield 160, 3) := by decide +kernel
theorem dX0_runOnce_144 : decode cX0_runOnce 144 = .ok (.i2l, 1) := by decide +kernel
theorem dX0_runOnce_145 : decode cX0_runOnce 145 = .ok (.lstore 9, 2) := by decide +kernel
theorem dX0_runOnce_147 : decode cX0_runOnce 147 = .ok (.iload 7, 2) := by decide +kernel
theorem dX0_runOnce_149 : decode cX0_runOnce 149 = .ok (.lload_n 3, 1) := by decide +kernel
theorem dX0_runOnce_150 : decode cX0_runOnce 150 = .ok (.lload 9, 2) := by decide +kernel
theorem dX0_runOnce_152 : decode cX0_runOnce 152 = .ok (.invokestatic 163, 3) := by decide +kernel
theorem dX0_runOnce_155 : decode cX0_runOnce 155 = .ok (.lstore 11, 2) := by decide +kernel
theorem dX0_runOnce_157 : decode cX0_runOnce 157 = .ok (.iload 7, 2) := by decide +kernel
theorem dX0_runOnce_159 : decode cX0_runOnce 159 = .ok (.lload_n 3, 1) := by decide +kernel
theorem dX0_runOnce_160 : decode cX0_runOnce 160 = .ok (.lload 9, 2) := by decide +kernel
theorem dX0_runOnce_162 : decode cX0_runOnce 162 = .ok (.lload 11, 2) := by decide +kernel
theorem dX0_runOnce_164 : decode cX0_runOnce 164 = .ok (.invokestatic 167, 3) := by decide +kernel
theorem dX0_runOnce_167 : decode cX0_runOnce 167 = .ok (.istore 13, 2) := by decide +kernel
theorem dX0_runOnce_169 : decode cX0_runOnce 169 = .ok (.iload 13, 2) := by decide +kernel
theorem dX0_runOnce_171 : decode cX0_runOnce 171 = .ok (.ifCond .eq 13, 3) := by decide +kernel
theorem dX0_runOnce_174 : decode cX0_runOnce 174 = .ok (.iload_n 1, 1) := by decide +kernel
theorem dX0_runOnce_175 : decode cX0_runOnce 175 = .ok (.iload 13, 2) := by decide +kernel
theorem dX0_runOnce_177 : decode cX0_runOnce 177 = .ok (.iload 6, 2) := by decide +kernel
theorem dX0_runOnce_179 : decode cX0_runOnce 179 = .ok (.aconst_null, 1) := by decide +kernel
theorem dX0_runOnce_180 : decode cX0_runOnce 180 = .ok (.invokestatic 146, 3) := by decide +kernel
theorem dX0_runOnce_183 : decode cX0_runOnce 183 = .ok (.areturn, 1) := by decide +kernel
theorem dX0_runOnce_184 : decode cX0_runOnce 184 = .ok (.lload 11, 2) := by decide +kernel
theorem dX0_runOnce_186 : decode cX0_runOnce 186 = .ok (.lstore_n 3, 1) := by decide +kernel
theorem dX0_runOnce_187 : decode cX0_runOnce 187 = .ok (.iload 7, 2) := by decide +kernel
theorem dX0_runOnce_189 : decode cX0_runOnce 189 = .ok (.lload_n 3, 1) := by decide +kernel
theorem dX0_runOnce_190 : decode cX0_runOnce 190 = .ok (.iload 8, 2) := by decide +kernel
theorem dX0_runOnce_192 : decode cX0_runOnce 192 = .ok (.invokestatic 171, 3) := by decide +kernel
theorem dX0_runOnce_195 : decode cX0_runOnce 195 = .ok (.istore 5, 2) := by decide +kernel
theorem dX0_runOnce_197 : decode cX0_runOnce 197 = .ok (.iinc 6 1, 3) := by decide +kernel
theorem dX0_runOnce_200 : decode cX0_runOnce 200 = .ok (.goto (-178), 3) := by decide +kernel
theorem dX0_runOnce_203 : decode cX0_runOnce 203 = .ok (.lload_n 3, 1) := by decide +kernel
theorem dX0_runOnce_204 : decode cX0_runOnce 204 = .ok (.l2i, 1) := by decide +kernel
theorem dX0_runOnce_205 : decode cX0_runOnce 205 = .ok (.invokestatic 175, 3) := by decide +kernel
theorem dX0_runOnce_208 : decode cX0_runOnce 208 = .ok (.areturn, 1) := by decide +kernel
theorem dX0_resultIfDone_0 : decode cX0_resultIfDone 0 = .ok (.iload_n 1, 1) := by decide +kernel
theorem dX0_resultIfDone_1 : decode cX0_resultIfDone 1 = .ok (.invokestatic 178, 3) := by decide +kernel
theorem dX0_resultIfDone_4 : decode cX0_resultIfDone 4 = .ok (.ifCond .eq 18, 3) := by decide +kernel
theorem dX0_resultIfDone_7 : decode cX0_resultIfDone 7 = .ok (.aload_n 0, 1) := by decide +kernel
theorem dX0_resultIfDone_8 : decode cX0_resultIfDone 8 = .ok (.getfield 29, 3) := by decide +kernel
theorem dX0_resultIfDone_11 : decode cX0_resultIfDone 11 = .ok (.iload_n 1, 1) := by decide +kernel
theorem dX0_resultIfDone_12 : decode cX0_resultIfDone 12 = .ok (.invokestatic 49, 3) := by decide +kernel
theorem dX0_resultIfDone_15 : decode cX0_resultIfDone 15 = .ok (.ifCond .ne 7, 3) := by decide +kernel
theorem dX0_resultIfDone_18 : decode cX0_resultIfDone 18 = .ok (.aconst_null, 1) := by decide +kernel
theorem dX0_resultIfDone_19 : decode cX0_resultIfDone 19 = .ok (.goto 11, 3) := by decide +kernel
theorem dX0_resultIfDone_22 : decode cX0_resultIfDone 22 = .ok (.aload_n 0, 1) := by decide +kernel
theorem dX0_resultIfDone_23 : decode cX0_resultIfDone 23 = .ok (.getfield 12, 3) := by decide +kernel
theorem dX0_resultIfDone_26 : decode cX0_resultIfDone 26 = .ok (.iload_n 1, 1) := by decide +kernel
theorem dX0_resultIfDone_27 : decode cX0_resultIfDone 27 = .ok (.invokevirtual 102, 3) := by decide +kernel
theorem dX0_resultIfDone_30 : decode cX0_resultIfDone 30 = .ok (.areturn, 1) := by decide +kernel
theorem dX0_worked_0 : decode cX0_worked 0 = .ok (.iload_n 0, 1) := by decide +kernel
theorem dX0_worked_1 : decode cX0_worked 1 = .ok (.tableswitch 159 37 61 #[141, 155, 159, 159, 159, 123, 115, 159, 119, 159, 127, 159, 159, 159, 159, 159, 159, 159, 159, 159, 159, 159, 159, 159, 157], 115) := by decide +kernel
theorem dX0_worked_116 : decode cX0_worked 116 = .ok (.lload_n 1, 1) := by decide +kernel
theorem dX0_worked_117 : decode cX0_worked 117 = .ok (.lload_n 3, 1) := by decide +kernel
theorem dX0_worked_118 : decode cX0_worked 118 = .ok (.ladd, 1) := by decide +kernel
theorem dX0_worked_119 : decode cX0_worked 119 = .ok (.lreturn, 1) := by decide +kernel
theorem dX0_worked_120 : decode cX0_worked 120 = .ok (.lload_n 1, 1) := by decide +kernel
theorem dX0_worked_121 : decode cX0_worked 121 = .ok (.lload_n 3, 1) := by decide +kernel
theorem dX0_worked_122 : decode cX0_worked 122 = .ok (.lsub, 1) := by decide +kernel
theorem dX0_worked_123 : decode cX0_worked 123 = .ok (.lreturn, 1) := by decide +kernel
theorem dX0_worked_124 : decode cX0_worked 124 = .ok (.lload_n 1, 1) := by decide +kernel
theorem dX0_worked_125 : decode cX0_worked 125 = .ok (.lload_n 3, 1) := by decide +kernel
theorem dX0_worked_126 : decode cX0_worked 126 = .ok (.lmul, 1) := by decide +kernel
theorem dX0_worked_127 : decode cX0_worked 127 = .ok (.lreturn, 1) := by decide +kernel
theorem dX0_worked_128 : decode cX0_worked 128 = .ok (.lload_n 3, 1) := by decide +kernel
theorem dX0_worked_129 : decode cX0_worked 129 = .ok (.lconst 0, 1) := by decide +kernel
theorem dX0_worked_130 : decode cX0_worked 130 = .ok (.lcmp, 1) := by decide +kernel
theorem dX0_worked_131 : decode cX0_worked 131 = .ok (.ifCond .ne 7, 3) := by decide +kernel
theorem dX0_worked_134 : decode cX0_worked 134 = .ok (.lload_n 1, 1) := by decide +kernel
theorem dX0_worked_135 : decode cX0_worked 135 = .ok (.goto 6, 3) := by decide +kernel
theorem dX0_worked_138 : decode cX0_worked 138 = .ok (.lload_n 1, 1) := by decide +kernel
theorem dX0_worked_139 : decode cX0_worked 139 = .ok (.lload_n 3, 1) := by decide +kernel
theorem dX0_worked_140 : decode cX0_worked 140 = .ok (.ldiv, 1) := by decide +kernel
theorem dX0_worked_141 : decode cX0_worked 141 = .ok (.lreturn, 1) := by decide +kernel
theorem dX0_worked_142 : decode cX0_worked 142 = .ok (.lload_n 3, 1) := by decide +kernel
theorem dX0_worked_143 : decode cX0_worked 143 = .ok (.lconst 0, 1) := by decide +kernel
theorem dX0_worked_144 : decode cX0_worked 144 = .ok (.lcmp, 1) := by decide +kernel
theorem dX0_worked_145 : decode cX0_worked 145 = .ok (.ifCond .ne 7, 3) := by decide +kernel
theorem dX0_worked_148 : decode cX0_worked 148 = .ok (.lload_n 1, 1) := by decide +kernel
theorem dX0_worked_149 : decode cX0_worked 149 = .ok (.goto 6, 3) := by decide +kernel
theorem dX0_worked_152 : decode cX0_worked 152 = .ok (.lload_n 1, 1) := by decide +kernel
theorem dX0_worked_153 : decode cX0_worked 153 = .ok (.lload_n 3, 1) := by decide +kernel
theorem dX0_worked_154 : decode cX0_worked 154 = .ok (.lrem, 1) := by decide +kernel
theorem dX0_worked_155 : decode cX0_worked 155 = .ok (.lreturn, 1) := by decide +kernel
theorem dX0_worked_156 : decode cX0_worked 156 = .ok (.lload_n 3, 1) := by decide +kernel
theorem dX0_worked_157 : decode cX0_worked 157 = .ok (.lreturn, 1) := by decide +kernel
theorem dX0_worked_158 : decode cX0_worked 158 = .ok (.lload_n 3, 1) := by decide +kernel
theorem dX0_worked_159 : decode cX0_worked 159 = .ok (.lreturn, 1) := by decide +kernel
theorem dX0_worked_160 : decode cX0_worked 160 = .ok (.lload_n 1, 1) := by decide +kernel
theorem dX0_worked_161 : decode cX0_worked 161 = .ok (.lreturn, 1) := by decide +kernel
theorem dX0_failingSort_0 : decode cX0_failingSort 0 = .ok (.iload_n 0, 1) := by decide +kernel
theorem dX0_failingSort_1 : decode cX0_failingSort 1 = .ok (.bipush 47, 2) := by decide +kernel
theorem dX0_failingSort_3 : decode cX0_failingSort 3 = .ok (.if_icmp .eq 9, 3) := by decide +kernel
theorem dX0_failingSort_6 : decode cX0_failingSort 6 = .ok (.iload_n 0, 1) := by decide +kernel
theorem dX0_failingSort_7 : decode cX0_failingSort 7 = .ok (.bipush 37, 2) := by decide +kernel
theorem dX0_failingSort_9 : decode cX0_failingSort 9 = .ok (.if_icmp .ne 11, 3) := by decide +kernel
theorem dX0_failingSort_12 : decode cX0_failingSort 12 = .ok (.lload_n 3, 1) := by decide +kernel
theorem dX0_failingSort_13 : decode cX0_failingSort 13 = .ok (.lconst 0, 1) := by decide +kernel
theorem dX0_failingSort_14 : decode cX0_failingSort 14 = .ok (.lcmp, 1) := by decide +kernel
theorem dX0_failingSort_15 : decode cX0_failingSort 15 = .ok (.ifCond .ne 5, 3) := by decide +kernel
theorem dX0_failingSort_18 : decode cX0_failingSort 18 = .ok (.iconst 2, 1) := by decide +kernel
theorem dX0_failingSort_19 : decode cX0_failingSort 19 = .ok (.ireturn, 1) := by decide +kernel
theorem dX0_failingSort_20 : decode cX0_failingSort 20 = .ok (.iload_n 0, 1) := by decide +kernel
theorem dX0_failingSort_21 : decode cX0_failingSort 21 = .ok (.bipush 33, 2) := by decide +kernel
theorem dX0_failingSort_23 : decode cX0_failingSort 23 = .ok (.if_icmp .ne 11, 3) := by decide +kernel
theorem dX0_failingSort_26 : decode cX0_failingSort 26 = .ok (.lload_n 1, 1) := by decide +kernel
theorem dX0_failingSort_27 : decode cX0_failingSort 27 = .ok (.lload_n 3, 1) := by decide +kernel
theorem dX0_failingSort_28 : decode cX0_failingSort 28 = .ok (.lcmp, 1) := by decide +kernel
theorem dX0_failingSort_29 : decode cX0_failingSort 29 = .ok (.ifCond .le 5, 3) := by decide +kernel
theorem dX0_failingSort_32 : decode cX0_failingSort 32 = .ok (.iconst 4, 1) := by decide +kernel
theorem dX0_failingSort_33 : decode cX0_failingSort 33 = .ok (.ireturn, 1) := by decide +kernel
theorem dX0_failingSort_34 : decode cX0_failingSort 34 = .ok (.lload 5, 2) := by decide +kernel
theorem dX0_failingSort_36 : decode cX0_failingSort 36 = .ok (.invokestatic 181, 3) := by decide +kernel
theorem dX0_failingSort_39 : decode cX0_failingSort 39 = .ok (.ifCond .eq 7, 3) := by decide +kernel
theorem dX0_failingSort_42 : decode cX0_failingSort 42 = .ok (.iconst 0, 1) := by decide +kernel
theorem dX0_failingSort_43 : decode cX0_failingSort 43 = .ok (.goto 4, 3) := by decide +kernel
theorem dX0_failingSort_46 : decode cX0_failingSort 46 = .ok (.iconst 3, 1) := by decide +kernel
theorem dX0_failingSort_47 : decode cX0_failingSort 47 = .ok (.ireturn, 1) := by decide +kernel
theorem dX0_stepsToPass_0 : decode cX0_stepsToPass 0 = .ok (.iload_n 0, 1) := by decide +kernel
theorem dX0_stepsToPass_1 : decode cX0_stepsToPass 1 = .ok (.bipush 63, 2) := by decide +kernel
theorem dX0_stepsToPass_3 : decode cX0_stepsToPass 3 = .ok (.if_icmp .ne 9, 3) := by decide +kernel
theorem dX0_stepsToPass_6 : decode cX0_stepsToPass 6 = .ok (.lload_n 1, 1) := by decide +kernel
theorem dX0_stepsToPass_7 : decode cX0_stepsToPass 7 = .ok (.lconst 0, 1) := by decide +kernel
theorem dX0_stepsToPass_8 : decode cX0_stepsToPass 8 = .ok (.lcmp, 1) := by decide +kernel
theorem dX0_stepsToPass_9 : decode cX0_stepsToPass 9 = .ok (.ifCond .eq 15, 3) := by decide +kernel
theorem dX0_stepsToPass_12 : decode cX0_stepsToPass 12 = .ok (.iload_n 0, 1) := by decide +kernel
theorem dX0_stepsToPass_13 : decode cX0_stepsToPass 13 = .ok (.bipush 94, 2) := by decide +kernel
theorem dX0_stepsToPass_15 : decode cX0_stepsToPass 15 = .ok (.if_icmp .ne 13, 3) := by decide +kernel
theorem dX0_stepsToPass_18 : decode cX0_stepsToPass 18 = .ok (.lload_n 1, 1) := by decide +kernel
theorem dX0_stepsToPass_19 : decode cX0_stepsToPass 19 = .ok (.lconst 0, 1) := by decide +kernel
theorem dX0_stepsToPass_20 : decode cX0_stepsToPass 20 = .ok (.lcmp, 1) := by decide +kernel
theorem dX0_stepsToPass_21 : decode cX0_stepsToPass 21 = .ok (.ifCond .ge 7, 3) := by decide +kernel
theorem dX0_stepsToPass_24 : decode cX0_stepsToPass 24 = .ok (.iload_n 3, 1) := by decide +kernel
theorem dX0_stepsToPass_25 : decode cX0_stepsToPass 25 = .ok (.goto 4, 3) := by decide +kernel
theorem dX0_stepsToPass_28 : decode cX0_stepsToPass 28 = .ok (.iconst 0, 1) := by decide +kernel
theorem dX0_stepsToPass_29 : decode cX0_stepsToPass 29 = .ok (.ireturn, 1) := by decide +kernel
theorem dX0_bitOf_0 : decode cX0_bitOf 0 = .ok (.iload_n 0, 1) := by decide +kernel
theorem dX0_bitOf_1 : decode cX0_bitOf 1 = .ok (.invokestatic 178, 3) := by decide +kernel
theorem dX0_bitOf_4 : decode cX0_bitOf 4 = .ok (.ifCond .eq 12, 3) := by decide +kernel
theorem dX0_bitOf_7 : decode cX0_bitOf 7 = .ok (.iconst 1, 1) := by decide +kernel
theorem dX0_bitOf_8 : decode cX0_bitOf 8 = .ok (.iload_n 0, 1) := by decide +kernel
theorem dX0_bitOf_9 : decode cX0_bitOf 9 = .ok (.bipush 8, 2) := by decide +kernel
theorem dX0_bitOf_11 : decode cX0_bitOf 11 = .ok (.isub, 1) := by decide +kernel
theorem dX0_bitOf_12 : decode cX0_bitOf 12 = .ok (.ishl, 1) := by decide +kernel
theorem dX0_bitOf_13 : decode cX0_bitOf 13 = .ok (.goto 4, 3) := by decide +kernel
theorem dX0_bitOf_16 : decode cX0_bitOf 16 = .ok (.iconst 0, 1) := by decide +kernel
theorem dX0_bitOf_17 : decode cX0_bitOf 17 = .ok (.ireturn, 1) := by decide +kernel
theorem dX0_isIn_0 : decode cX0_isIn 0 = .ok (.iload_n 0, 1) := by decide +kernel
theorem dX0_isIn_1 : decode cX0_isIn 1 = .ok (.iload_n 1, 1) := by decide +kernel
theorem dX0_isIn_2 : decode cX0_isIn 2 = .ok (.invokestatic 38, 3) := by decide +kernel
theorem dX0_isIn_5 : decode cX0_isIn 5 = .ok (.iand, 1) := by decide +kernel
theorem dX0_isIn_6 : decode cX0_isIn 6 = .ok (.ifCond .eq 7, 3) := by decide +kernel
theorem dX0_isIn_9 : decode cX0_isIn 9 = .ok (.iconst 1, 1) := by decide +kernel
theorem dX0_isIn_10 : decode cX0_isIn 10 = .ok (.goto 4, 3) := by decide +kernel
theorem dX0_isIn_13 : decode cX0_isIn 13 = .ok (.iconst 0, 1) := by decide +kernel
theorem dX0_isIn_14 : decode cX0_isIn 14 = .ok (.ireturn, 1) := by decide +kernel
theorem dX1_init_0 : decode cX1_init 0 = .ok (.aload_n 0, 1) := by decide +kernel
theorem dX1_init_1 : decode cX1_init 1 = .ok (.invokespecial 3, 3) := by decide +kernel
theorem dX1_init_4 : decode cX1_init 4 = .ok (.aload_n 0, 1) := by decide +kernel
theorem dX1_init_5 : decode cX1_init 5 = .ok (.iload_n 1, 1) := by decide +kernel
theorem dX1_init_6 : decode cX1_init 6 = .ok (.putfield 9, 3) := by decide +kernel
theorem dX1_init_9 : decode cX1_init 9 = .ok (.aload_n 0, 1) := by decide +kernel
theorem dX1_init_10 : decode cX1_init 10 = .ok (.iload_n 2, 1) := by decide +kernel
theorem dX1_init_11 : decode cX1_init 11 = .ok (.putfield 15, 3) := by decide +kernel
theorem dX1_init_14 : decode cX1_init 14 = .ok (.aload_n 0, 1) := by decide +kernel
theorem dX1_init_15 : decode cX1_init 15 = .ok (.iload_n 3, 1) := by decide +kernel
theorem dX1_init_16 : decode cX1_init 16 = .ok (.putfield 18, 3) := by decide +kernel
theorem dX1_init_19 : decode cX1_init 19 = .ok (.aload_n 0, 1) := by decide +kernel
theorem dX1_init_20 : decode cX1_init 20 = .ok (.iload 4, 2) := by decide +kernel
theorem dX1_init_22 : decode cX1_init 22 = .ok (.putfield 21, 3) := by decide +kernel
theorem dX1_init_25 : decode cX1_init 25 = .ok (.aload_n 0, 1) := by decide +kernel
theorem dX1_init_26 : decode cX1_init 26 = .ok (.aload 5, 2) := by decide +kernel
theorem dX1_init_28 : decode cX1_init 28 = .ok (.putfield 24, 3) := by decide +kernel
theorem dX1_init_31 : decode cX1_init 31 = .ok (.return_, 1) := by decide +kernel
theorem dX1_ofContent_0 : decode cX1_ofContent 0 = .ok (.new 10, 3) := by decide +kernel
theorem dX1_ofContent_3 : decode cX1_ofContent 3 = .ok (.dup, 1) := by decide +kernel
theorem dX1_ofContent_4 : decode cX1_ofContent 4 = .ok (.iload_n 0, 1) := by decide +kernel
theorem dX1_ofContent_5 : decode cX1_ofContent 5 = .ok (.iconst (-1), 1) := by decide +kernel
theorem dX1_ofContent_6 : decode cX1_ofContent 6 = .ok (.iconst 0, 1) := by decide +kernel
theorem dX1_ofContent_7 : decode cX1_ofContent 7 = .ok (.iconst (-1), 1) := by decide +kernel
theorem dX1_ofContent_8 : decode cX1_ofContent 8 = .ok (.aconst_null, 1) := by decide +kernel
theorem dX1_ofContent_9 : decode cX1_ofContent 9 = .ok (.invokespecial 28, 3) := by decide +kernel
theorem dX1_ofContent_12 : decode cX1_ofContent 12 = .ok (.areturn, 1) := by decide +kernel
theorem dX1_ofFailure_0 : decode cX1_ofFailure 0 = .ok (.new 10, 3) := by decide +kernel
theorem dX1_ofFailure_3 : decode cX1_ofFailure 3 = .ok (.dup, 1) := by decide +kernel
theorem dX1_ofFailure_4 : decode cX1_ofFailure 4 = .ok (.iconst 0, 1) := by decide +kernel
theorem dX1_ofFailure_5 : decode cX1_ofFailure 5 = .ok (.iload_n 0, 1) := by decide +kernel
theorem dX1_ofFailure_6 : decode cX1_ofFailure 6 = .ok (.iload_n 1, 1) := by decide +kernel
theorem dX1_ofFailure_7 : decode cX1_ofFailure 7 = .ok (.iload_n 2, 1) := by decide +kernel
theorem dX1_ofFailure_8 : decode cX1_ofFailure 8 = .ok (.aload_n 3, 1) := by decide +kernel
theorem dX1_ofFailure_9 : decode cX1_ofFailure 9 = .ok (.invokespecial 28, 3) := by decide +kernel
theorem dX1_ofFailure_12 : decode cX1_ofFailure 12 = .ok (.areturn, 1) := by decide +kernel
theorem dX1_isFailure_0 : decode cX1_isFailure 0 = .ok (.aload_n 0, 1) := by decide +kernel
theorem dX1_isFailure_1 : decode cX1_isFailure 1 = .ok (.getfield 18, 3) := by decide +kernel
theorem dX1_isFailure_4 : decode cX1_isFailure 4 = .ok (.ifCond .eq 7, 3) := by decide +kernel
theorem dX1_isFailure_7 : decode cX1_isFailure 7 = .ok (.iconst 1, 1) := by decide +kernel
theorem dX1_isFailure_8 : decode cX1_isFailure 8 = .ok (.goto 4, 3) := by decide +kernel
theorem dX1_isFailure_11 : decode cX1_isFailure 11 = .ok (.iconst 0, 1) := by decide +kernel
theorem dX1_isFailure_12 : decode cX1_isFailure 12 = .ok (.ireturn, 1) := by decide +kernel
theorem dX1_asTold_0 : decode cX1_asTold 0 = .ok (.aload_n 0, 1) := by decide +kernel
theorem dX1_asTold_1 : decode cX1_asTold 1 = .ok (.invokevirtual 31, 3) := by decide +kernel
theorem dX1_asTold_4 : decode cX1_asTold 4 = .ok (.ifCond .eq 13, 3) := by decide +kernel
theorem dX1_asTold_7 : decode cX1_asTold 7 = .ok (.ldc 35, 2) := by decide +kernel
theorem dX1_asTold_9 : decode cX1_asTold 9 = .ok (.aload_n 0, 1) := by decide +kernel
theorem dX1_asTold_10 : decode cX1_asTold 10 = .ok (.getfield 18, 3) := by decide +kernel
theorem dX1_asTold_13 : decode cX1_asTold 13 = .ok (.iadd, 1) := by decide +kernel
theorem dX1_asTold_14 : decode cX1_asTold 14 = .ok (.goto 7, 3) := by decide +kernel
theorem dX1_asTold_17 : decode cX1_asTold 17 = .ok (.aload_n 0, 1) := by decide +kernel
theorem dX1_asTold_18 : decode cX1_asTold 18 = .ok (.getfield 9, 3) := by decide +kernel
theorem dX1_asTold_21 : decode cX1_asTold 21 = .ok (.ireturn, 1) := by decide +kernel
theorem dX1_causeCount_0 : decode cX1_causeCount 0 = .ok (.iconst 0, 1) := by decide +kernel
theorem dX1_causeCount_1 : decode cX1_causeCount 1 = .ok (.istore_n 1, 1) := by decide +kernel
theorem dX1_causeCount_2 : decode cX1_causeCount 2 = .ok (.aload_n 0, 1) := by decide +kernel
theorem dX1_causeCount_3 : decode cX1_causeCount 3 = .ok (.getfield 24, 3) := by decide +kernel
theorem dX1_causeCount_6 : decode cX1_causeCount 6 = .ok (.astore_n 2, 1) := by decide +kernel
theorem dX1_causeCount_7 : decode cX1_causeCount 7 = .ok (.aload_n 2, 1) := by decide +kernel
theorem dX1_causeCount_8 : decode cX1_causeCount 8 = .ok (.ifnull 14, 3) := by decide +kernel
theorem dX1_causeCount_11 : decode cX1_causeCount 11 = .ok (.iinc 1 1, 3) := by decide +kernel
theorem dX1_causeCount_14 : decode cX1_causeCount 14 = .ok (.aload_n 2, 1) := by decide +kernel
theorem dX1_causeCount_15 : decode cX1_causeCount 15 = .ok (.getfield 24, 3) := by decide +kernel
theorem dX1_causeCount_18 : decode cX1_causeCount 18 = .ok (.astore_n 2, 1) := by decide +kernel
theorem dX1_causeCount_19 : decode cX1_causeCount 19 = .ok (.goto (-12), 3) := by decide +kernel
theorem dX1_causeCount_22 : decode cX1_causeCount 22 = .ok (.iload_n 1, 1) := by decide +kernel
theorem dX1_causeCount_23 : decode cX1_causeCount 23 = .ok (.ireturn, 1) := by decide +kernel
theorem dX1_rootKey_0 : decode cX1_rootKey 0 = .ok (.aload_n 0, 1) := by decide +kernel
theorem dX1_rootKey_1 : decode cX1_rootKey 1 = .ok (.getfield 15, 3) := by decide +kernel
theorem dX1_rootKey_4 : decode cX1_rootKey 4 = .ok (.istore_n 1, 1) := by decide +kernel
theorem dX1_rootKey_5 : decode cX1_rootKey 5 = .ok (.aload_n 0, 1) := by decide +kernel
theorem dX1_rootKey_6 : decode cX1_rootKey 6 = .ok (.getfield 24, 3) := by decide +kernel
theorem dX1_rootKey_9 : decode cX1_rootKey 9 = .ok (.astore_n 2, 1) := by decide +kernel
theorem dX1_rootKey_10 : decode cX1_rootKey 10 = .ok (.aload_n 2, 1) := by decide +kernel
theorem dX1_rootKey_11 : decode cX1_rootKey 11 = .ok (.ifnull 16, 3) := by decide +kernel
theorem dX1_rootKey_14 : decode cX1_rootKey 14 = .ok (.aload_n 2, 1) := by decide +kernel
theorem dX1_rootKey_15 : decode cX1_rootKey 15 = .ok (.getfield 15, 3) := by decide +kernel
theorem dX1_rootKey_18 : decode cX1_rootKey 18 = .ok (.istore_n 1, 1) := by decide +kernel
theorem dX1_rootKey_19 : decode cX1_rootKey 19 = .ok (.aload_n 2, 1) := by decide +kernel
theorem dX1_rootKey_20 : decode cX1_rootKey 20 = .ok (.getfield 24, 3) := by decide +kernel
theorem dX1_rootKey_23 : decode cX1_rootKey 23 = .ok (.astore_n 2, 1) := by decide +kernel
theorem dX1_rootKey_24 : decode cX1_rootKey 24 = .ok (.goto (-14), 3) := by decide +kernel
theorem dX1_rootKey_27 : decode cX1_rootKey 27 = .ok (.iload_n 1, 1) := by decide +kernel
theorem dX1_rootKey_28 : decode cX1_rootKey 28 = .ok (.ireturn, 1) := by decide +kernel
theorem dX1_isOrComesOfSort_0 : decode cX1_isOrComesOfSort 0 = .ok (.aload_n 0, 1) := by decide +kernel
theorem dX1_isOrComesOfSort_1 : decode cX1_isOrComesOfSort 1 = .ok (.astore_n 2, 1) := by decide +kernel
theorem dX1_isOrComesOfSort_2 : decode cX1_isOrComesOfSort 2 = .ok (.aload_n 2, 1) := by decide +kernel
theorem dX1_isOrComesOfSort_3 : decode cX1_isOrComesOfSort 3 = .ok (.ifnull 21, 3) := by decide +kernel
theorem dX1_isOrComesOfSort_6 : decode cX1_isOrComesOfSort 6 = .ok (.aload_n 2, 1) := by decide +kernel
theorem dX1_isOrComesOfSort_7 : decode cX1_isOrComesOfSort 7 = .ok (.getfield 18, 3) := by decide +kernel
theorem dX1_isOrComesOfSort_10 : decode cX1_isOrComesOfSort 10 = .ok (.iload_n 1, 1) := by decide +kernel
theorem dX1_isOrComesOfSort_11 : decode cX1_isOrComesOfSort 11 = .ok (.if_icmp .ne 5, 3) := by decide +kernel
theorem dX1_isOrComesOfSort_14 : decode cX1_isOrComesOfSort 14 = .ok (.iconst 1, 1) := by decide +kernel
theorem dX1_isOrComesOfSort_15 : decode cX1_isOrComesOfSort 15 = .ok (.ireturn, 1) := by decide +kernel
theorem dX1_isOrComesOfSort_16 : decode cX1_isOrComesOfSort 16 = .ok (.aload_n 2, 1) := by decide +kernel
theorem dX1_isOrComesOfSort_17 : decode cX1_isOrComesOfSort 17 = .ok (.getfield 24, 3) := by decide +kernel
theorem dX1_isOrComesOfSort_20 : decode cX1_isOrComesOfSort 20 = .ok (.astore_n 2, 1) := by decide +kernel
theorem dX1_isOrComesOfSort_21 : decode cX1_isOrComesOfSort 21 = .ok (.goto (-19), 3) := by decide +kernel
theorem dX1_isOrComesOfSort_24 : decode cX1_isOrComesOfSort 24 = .ok (.iconst 0, 1) := by decide +kernel
theorem dX1_isOrComesOfSort_25 : decode cX1_isOrComesOfSort 25 = .ok (.ireturn, 1) := by decide +kernel
theorem dX1_isOrComesOfKey_0 : decode cX1_isOrComesOfKey 0 = .ok (.aload_n 0, 1) := by decide +kernel
theorem dX1_isOrComesOfKey_1 : decode cX1_isOrComesOfKey 1 = .ok (.astore_n 2, 1) := by decide +kernel
theorem dX1_isOrComesOfKey_2 : decode cX1_isOrComesOfKey 2 = .ok (.aload_n 2, 1) := by decide +kernel
theorem dX1_isOrComesOfKey_3 : decode cX1_isOrComesOfKey 3 = .ok (.ifnull 21, 3) := by decide +kernel
theorem dX1_isOrComesOfKey_6 : decode cX1_isOrComesOfKey 6 = .ok (.aload_n 2, 1) := by decide +kernel
theorem dX1_isOrComesOfKey_7 : decode cX1_isOrComesOfKey 7 = .ok (.getfield 15, 3) := by decide +kernel
theorem dX1_isOrComesOfKey_10 : decode cX1_isOrComesOfKey 10 = .ok (.iload_n 1, 1) := by decide +kernel
theorem dX1_isOrComesOfKey_11 : decode cX1_isOrComesOfKey 11 = .ok (.if_icmp .ne 5, 3) := by decide +kernel
theorem dX1_isOrComesOfKey_14 : decode cX1_isOrComesOfKey 14 = .ok (.iconst 1, 1) := by decide +kernel
theorem dX1_isOrComesOfKey_15 : decode cX1_isOrComesOfKey 15 = .ok (.ireturn, 1) := by decide +kernel
theorem dX1_isOrComesOfKey_16 : decode cX1_isOrComesOfKey 16 = .ok (.aload_n 2, 1) := by decide +kernel
theorem dX1_isOrComesOfKey_17 : decode cX1_isOrComesOfKey 17 = .ok (.getfield 24, 3) := by decide +kernel
theorem dX1_isOrComesOfKey_20 : decode cX1_isOrComesOfKey 20 = .ok (.astore_n 2, 1) := by decide +kernel
theorem dX1_isOrComesOfKey_21 : decode cX1_isOrComesOfKey 21 = .ok (.goto (-19), 3) := by decide +kernel
theorem dX1_isOrComesOfKey_24 : decode cX1_isOrComesOfKey 24 = .ok (.iconst 0, 1) := by decide +kernel
theorem dX1_isOrComesOfKey_25 : decode cX1_isOrComesOfKey 25 = .ok (.ireturn, 1) := by decide +kernel
theorem dX1_areSame_0 : decode cX1_areSame 0 = .ok (.aload_n 0, 1) := by decide +kernel
theorem dX1_areSame_1 : decode cX1_areSame 1 = .ok (.ifnull 7, 3) := by decide +kernel
theorem dX1_areSame_4 : decode cX1_areSame 4 = .ok (.aload_n 1, 1) := by decide +kernel
theorem dX1_areSame_5 : decode cX1_areSame 5 = .ok (.ifnonnull 5, 3) := by decide +kernel
theorem dX1_areSame_8 : decode cX1_areSame 8 = .ok (.iconst 0, 1) := by decide +kernel
theorem dX1_areSame_9 : decode cX1_areSame 9 = .ok (.ireturn, 1) := by decide +kernel
theorem dX1_areSame_10 : decode cX1_areSame 10 = .ok (.aload_n 0, 1) := by decide +kernel
theorem dX1_areSame_11 : decode cX1_areSame 11 = .ok (.astore_n 2, 1) := by decide +kernel
theorem dX1_areSame_12 : decode cX1_areSame 12 = .ok (.aload_n 1, 1) := by decide +kernel
theorem dX1_areSame_13 : decode cX1_areSame 13 = .ok (.astore_n 3, 1) := by decide +kernel
theorem dX1_areSame_14 : decode cX1_areSame 14 = .ok (.aload_n 2, 1) := by decide +kernel
theorem dX1_areSame_15 : decode cX1_areSame 15 = .ok (.ifnull 66, 3) := by decide +kernel
theorem dX1_areSame_18 : decode cX1_areSame 18 = .ok (.aload_n 3, 1) := by decide +kernel
theorem dX1_areSame_19 : decode cX1_areSame 19 = .ok (.ifnull 62, 3) := by decide +kernel
theorem dX1_areSame_22 : decode cX1_areSame 22 = .ok (.aload_n 2, 1) := by decide +kernel
theorem dX1_areSame_23 : decode cX1_areSame 23 = .ok (.getfield 9, 3) := by decide +kernel
theorem dX1_areSame_26 : decode cX1_areSame 26 = .ok (.aload_n 3, 1) := by decide +kernel
theorem dX1_areSame_27 : decode cX1_areSame 27 = .ok (.getfield 9, 3) := by decide +kernel
theorem dX1_areSame_30 : decode cX1_areSame 30 = .ok (.if_icmp .ne 36, 3) := by decide +kernel
theorem dX1_areSame_33 : decode cX1_areSame 33 = .ok (.aload_n 2, 1) := by decide +kernel
theorem dX1_areSame_34 : decode cX1_areSame 34 = .ok (.getfield 15, 3) := by decide +kernel
theorem dX1_areSame_37 : decode cX1_areSame 37 = .ok (.aload_n 3, 1) := by decide +kernel
theorem dX1_areSame_38 : decode cX1_areSame 38 = .ok (.getfield 15, 3) := by decide +kernel
theorem dX1_areSame_41 : decode cX1_areSame 41 = .ok (.if_icmp .ne 25, 3) := by decide +kernel
theorem dX1_areSame_44 : decode cX1_areSame 44 = .ok (.aload_n 2, 1) := by decide +kernel
theorem dX1_areSame_45 : decode cX1_areSame 45 = .ok (.getfield 18, 3) := by decide +kernel
theorem dX1_areSame_48 : decode cX1_areSame 48 = .ok (.aload_n 3, 1) := by decide +kernel
theorem dX1_areSame_49 : decode cX1_areSame 49 = .ok (.getfield 18, 3) := by decide +kernel
theorem dX1_areSame_52 : decode cX1_areSame 52 = .ok (.if_icmp .ne 14, 3) := by decide +kernel
theorem dX1_areSame_55 : decode cX1_areSame 55 = .ok (.aload_n 2, 1) := by decide +kernel
theorem dX1_areSame_56 : decode cX1_areSame 56 = .ok (.getfield 21, 3) := by decide +kernel
theorem dX1_areSame_59 : decode cX1_areSame 59 = .ok (.aload_n 3, 1) := by decide +kernel
theorem dX1_areSame_60 : decode cX1_areSame 60 = .ok (.getfield 21, 3) := by decide +kernel
theorem dX1_areSame_63 : decode cX1_areSame 63 = .ok (.if_icmp .eq 5, 3) := by decide +kernel
theorem dX1_areSame_66 : decode cX1_areSame 66 = .ok (.iconst 0, 1) := by decide +kernel
theorem dX1_areSame_67 : decode cX1_areSame 67 = .ok (.ireturn, 1) := by decide +kernel
theorem dX1_areSame_68 : decode cX1_areSame 68 = .ok (.aload_n 2, 1) := by decide +kernel
theorem dX1_areSame_69 : decode cX1_areSame 69 = .ok (.getfield 24, 3) := by decide +kernel
theorem dX1_areSame_72 : decode cX1_areSame 72 = .ok (.astore_n 2, 1) := by decide +kernel
theorem dX1_areSame_73 : decode cX1_areSame 73 = .ok (.aload_n 3, 1) := by decide +kernel
theorem dX1_areSame_74 : decode cX1_areSame 74 = .ok (.getfield 24, 3) := by decide +kernel
theorem dX1_areSame_77 : decode cX1_areSame 77 = .ok (.astore_n 3, 1) := by decide +kernel
theorem dX1_areSame_78 : decode cX1_areSame 78 = .ok (.goto (-64), 3) := by decide +kernel
theorem dX1_areSame_81 : decode cX1_areSame 81 = .ok (.aload_n 2, 1) := by decide +kernel
theorem dX1_areSame_82 : decode cX1_areSame 82 = .ok (.ifnonnull 11, 3) := by decide +kernel
theorem dX1_areSame_85 : decode cX1_areSame 85 = .ok (.aload_n 3, 1) := by decide +kernel
theorem dX1_areSame_86 : decode cX1_areSame 86 = .ok (.ifnonnull 7, 3) := by decide +kernel
theorem dX1_areSame_89 : decode cX1_areSame 89 = .ok (.iconst 1, 1) := by decide +kernel
theorem dX1_areSame_90 : decode cX1_areSame 90 = .ok (.goto 4, 3) := by decide +kernel
theorem dX1_areSame_93 : decode cX1_areSame 93 = .ok (.iconst 0, 1) := by decide +kernel
theorem dX1_areSame_94 : decode cX1_areSame 94 = .ok (.ireturn, 1) := by decide +kernel
theorem dX2_init_0 : decode cX2_init 0 = .ok (.aload_n 0, 1) := by decide +kernel
theorem dX2_init_1 : decode cX2_init 1 = .ok (.invokespecial 3, 3) := by decide +kernel
theorem dX2_init_4 : decode cX2_init 4 = .ok (.aload_n 0, 1) := by decide +kernel
theorem dX2_init_5 : decode cX2_init 5 = .ok (.bipush 20, 2) := by decide +kernel
theorem dX2_init_7 : decode cX2_init 7 = .ok (.newarray .long, 2) := by decide +kernel
theorem dX2_init_9 : decode cX2_init 9 = .ok (.putfield 9, 3) := by decide +kernel
theorem dX2_init_12 : decode cX2_init 12 = .ok (.return_, 1) := by decide +kernel
theorem dX2_hold_0 : decode cX2_hold 0 = .ok (.aload_n 0, 1) := by decide +kernel
theorem dX2_hold_1 : decode cX2_hold 1 = .ok (.iconst 1, 1) := by decide +kernel
theorem dX2_hold_2 : decode cX2_hold 2 = .ok (.putfield 15, 3) := by decide +kernel
theorem dX2_hold_5 : decode cX2_hold 5 = .ok (.aload_n 0, 1) := by decide +kernel
theorem dX2_hold_6 : decode cX2_hold 6 = .ok (.iconst 0, 1) := by decide +kernel
theorem dX2_hold_7 : decode cX2_hold 7 = .ok (.iload_n 1, 1) := by decide +kernel
theorem dX2_hold_8 : decode cX2_hold 8 = .ok (.bipush 20, 2) := by decide +kernel
theorem dX2_hold_10 : decode cX2_hold 10 = .ok (.invokestatic 19, 3) := by decide +kernel
theorem dX2_hold_13 : decode cX2_hold 13 = .ok (.invokestatic 25, 3) := by decide +kernel
theorem dX2_hold_16 : decode cX2_hold 16 = .ok (.putfield 28, 3) := by decide +kernel
theorem dX2_hold_19 : decode cX2_hold 19 = .ok (.aload_n 0, 1) := by decide +kernel
theorem dX2_hold_20 : decode cX2_hold 20 = .ok (.getfield 9, 3) := by decide +kernel
theorem dX2_hold_23 : decode cX2_hold 23 = .ok (.lconst 0, 1) := by decide +kernel
theorem dX2_hold_24 : decode cX2_hold 24 = .ok (.invokestatic 32, 3) := by decide +kernel
theorem dX2_hold_27 : decode cX2_hold 27 = .ok (.return_, 1) := by decide +kernel
theorem dX2_hasPlace_0 : decode cX2_hasPlace 0 = .ok (.iload_n 1, 1) := by decide +kernel
theorem dX2_hasPlace_1 : decode cX2_hasPlace 1 = .ok (.ifCond .lt 15, 3) := by decide +kernel
theorem dX2_hasPlace_4 : decode cX2_hasPlace 4 = .ok (.iload_n 1, 1) := by decide +kernel
theorem dX2_hasPlace_5 : decode cX2_hasPlace 5 = .ok (.aload_n 0, 1) := by decide +kernel
theorem dX2_hasPlace_6 : decode cX2_hasPlace 6 = .ok (.getfield 28, 3) := by decide +kernel
theorem dX2_hasPlace_9 : decode cX2_hasPlace 9 = .ok (.if_icmp .ge 7, 3) := by decide +kernel
theorem dX2_hasPlace_12 : decode cX2_hasPlace 12 = .ok (.iconst 1, 1) := by decide +kernel
theorem dX2_hasPlace_13 : decode cX2_hasPlace 13 = .ok (.goto 4, 3) := by decide +kernel
theorem dX2_hasPlace_16 : decode cX2_hasPlace 16 = .ok (.iconst 0, 1) := by decide +kernel
theorem dX2_hasPlace_17 : decode cX2_hasPlace 17 = .ok (.ireturn, 1) := by decide +kernel
theorem dX2_hasSpan_0 : decode cX2_hasSpan 0 = .ok (.iload_n 1, 1) := by decide +kernel
theorem dX2_hasSpan_1 : decode cX2_hasSpan 1 = .ok (.ifCond .lt 21, 3) := by decide +kernel
theorem dX2_hasSpan_4 : decode cX2_hasSpan 4 = .ok (.iload_n 2, 1) := by decide +kernel
theorem dX2_hasSpan_5 : decode cX2_hasSpan 5 = .ok (.ifCond .lt 17, 3) := by decide +kernel
theorem dX2_hasSpan_8 : decode cX2_hasSpan 8 = .ok (.iload_n 1, 1) := by decide +kernel
theorem dX2_hasSpan_9 : decode cX2_hasSpan 9 = .ok (.aload_n 0, 1) := by decide +kernel
theorem dX2_hasSpan_10 : decode cX2_hasSpan 10 = .ok (.getfield 28, 3) := by decide +kernel
theorem dX2_hasSpan_13 : decode cX2_hasSpan 13 = .ok (.iload_n 2, 1) := by decide +kernel
theorem dX2_hasSpan_14 : decode cX2_hasSpan 14 = .ok (.isub, 1) := by decide +kernel
theorem dX2_hasSpan_15 : decode cX2_hasSpan 15 = .ok (.if_icmp .gt 7, 3) := by decide +kernel
theorem dX2_hasSpan_18 : decode cX2_hasSpan 18 = .ok (.iconst 1, 1) := by decide +kernel
theorem dX2_hasSpan_19 : decode cX2_hasSpan 19 = .ok (.goto 4, 3) := by decide +kernel
theorem dX2_hasSpan_22 : decode cX2_hasSpan 22 = .ok (.iconst 0, 1) := by decide +kernel
theorem dX2_hasSpan_23 : decode cX2_hasSpan 23 = .ok (.ireturn, 1) := by decide +kernel
theorem dX2_read_0 : decode cX2_read 0 = .ok (.aload_n 0, 1) := by decide +kernel
theorem dX2_read_1 : decode cX2_read 1 = .ok (.iload_n 1, 1) := by decide +kernel
theorem dX2_read_2 : decode cX2_read 2 = .ok (.invokevirtual 38, 3) := by decide +kernel
theorem dX2_read_5 : decode cX2_read 5 = .ok (.ifCond .eq 12, 3) := by decide +kernel
theorem dX2_read_8 : decode cX2_read 8 = .ok (.aload_n 0, 1) := by decide +kernel
theorem dX2_read_9 : decode cX2_read 9 = .ok (.getfield 9, 3) := by decide +kernel
theorem dX2_read_12 : decode cX2_read 12 = .ok (.iload_n 1, 1) := by decide +kernel
theorem dX2_read_13 : decode cX2_read 13 = .ok (.laload, 1) := by decide +kernel
theorem dX2_read_14 : decode cX2_read 14 = .ok (.goto 6, 3) := by decide +kernel
theorem dX2_read_17 : decode cX2_read 17 = .ok (.ldc2_w 42, 3) := by decide +kernel
theorem dX2_read_20 : decode cX2_read 20 = .ok (.lreturn, 1) := by decide +kernel
theorem dX2_write_0 : decode cX2_write 0 = .ok (.aload_n 0, 1) := by decide +kernel
theorem dX2_write_1 : decode cX2_write 1 = .ok (.iload_n 1, 1) := by decide +kernel
theorem dX2_write_2 : decode cX2_write 2 = .ok (.invokevirtual 38, 3) := by decide +kernel
theorem dX2_write_5 : decode cX2_write 5 = .ok (.ifCond .ne 5, 3) := by decide +kernel
theorem dX2_write_8 : decode cX2_write 8 = .ok (.iconst 0, 1) := by decide +kernel
theorem dX2_write_9 : decode cX2_write 9 = .ok (.ireturn, 1) := by decide +kernel
theorem dX2_write_10 : decode cX2_write 10 = .ok (.aload_n 0, 1) := by decide +kernel
theorem dX2_write_11 : decode cX2_write 11 = .ok (.getfield 9, 3) := by decide +kernel
theorem dX2_write_14 : decode cX2_write 14 = .ok (.iload_n 1, 1) := by decide +kernel
theorem dX2_write_15 : decode cX2_write 15 = .ok (.lload_n 2, 1) := by decide +kernel
theorem dX2_write_16 : decode cX2_write 16 = .ok (.lastore, 1) := by decide +kernel
theorem dX2_write_17 : decode cX2_write 17 = .ok (.iconst 1, 1) := by decide +kernel
theorem dX2_write_18 : decode cX2_write 18 = .ok (.ireturn, 1) := by decide +kernel
theorem dX3_init_0 : decode cX3_init 0 = .ok (.aload_n 0, 1) := by decide +kernel
theorem dX3_init_1 : decode cX3_init 1 = .ok (.invokespecial 3, 3) := by decide +kernel
theorem dX3_init_4 : decode cX3_init 4 = .ok (.aload_n 0, 1) := by decide +kernel
theorem dX3_init_5 : decode cX3_init 5 = .ok (.bipush 50, 2) := by decide +kernel
theorem dX3_init_7 : decode cX3_init 7 = .ok (.newarray .int, 2) := by decide +kernel
theorem dX3_init_9 : decode cX3_init 9 = .ok (.putfield 9, 3) := by decide +kernel
theorem dX3_init_12 : decode cX3_init 12 = .ok (.return_, 1) := by decide +kernel
theorem dX3_append_0 : decode cX3_append 0 = .ok (.aload_n 0, 1) := by decide +kernel
theorem dX3_append_1 : decode cX3_append 1 = .ok (.getfield 15, 3) := by decide +kernel
theorem dX3_append_4 : decode cX3_append 4 = .ok (.ifCond .lt 12, 3) := by decide +kernel
theorem dX3_append_7 : decode cX3_append 7 = .ok (.aload_n 0, 1) := by decide +kernel
theorem dX3_append_8 : decode cX3_append 8 = .ok (.getfield 15, 3) := by decide +kernel
theorem dX3_append_11 : decode cX3_append 11 = .ok (.bipush 50, 2) := by decide +kernel
theorem dX3_append_13 : decode cX3_append 13 = .ok (.if_icmp .lt 5, 3) := by decide +kernel
theorem dX3_append_16 : decode cX3_append 16 = .ok (.iconst 0, 1) := by decide +kernel
theorem dX3_append_17 : decode cX3_append 17 = .ok (.ireturn, 1) := by decide +kernel
theorem dX3_append_18 : decode cX3_append 18 = .ok (.aload_n 0, 1) := by decide +kernel
theorem dX3_append_19 : decode cX3_append 19 = .ok (.getfield 9, 3) := by decide +kernel
theorem dX3_append_22 : decode cX3_append 22 = .ok (.aload_n 0, 1) := by decide +kernel
theorem dX3_append_23 : decode cX3_append 23 = .ok (.getfield 15, 3) := by decide +kernel
theorem dX3_append_26 : decode cX3_append 26 = .ok (.iload_n 1, 1) := by decide +kernel
theorem dX3_append_27 : decode cX3_append 27 = .ok (.iastore, 1) := by decide +kernel
theorem dX3_append_28 : decode cX3_append 28 = .ok (.aload_n 0, 1) := by decide +kernel
theorem dX3_append_29 : decode cX3_append 29 = .ok (.dup, 1) := by decide +kernel
theorem dX3_append_30 : decode cX3_append 30 = .ok (.getfield 15, 3) := by decide +kernel
theorem dX3_append_33 : decode cX3_append 33 = .ok (.iconst 1, 1) := by decide +kernel
theorem dX3_append_34 : decode cX3_append 34 = .ok (.iadd, 1) := by decide +kernel
theorem dX3_append_35 : decode cX3_append 35 = .ok (.putfield 15, 3) := by decide +kernel
theorem dX3_append_38 : decode cX3_append 38 = .ok (.iconst 1, 1) := by decide +kernel
theorem dX3_append_39 : decode cX3_append 39 = .ok (.ireturn, 1) := by decide +kernel
theorem dX3_empty_0 : decode cX3_empty 0 = .ok (.aload_n 0, 1) := by decide +kernel
theorem dX3_empty_1 : decode cX3_empty 1 = .ok (.getfield 15, 3) := by decide +kernel
theorem dX3_empty_4 : decode cX3_empty 4 = .ok (.istore_n 1, 1) := by decide +kernel
theorem dX3_empty_5 : decode cX3_empty 5 = .ok (.aload_n 0, 1) := by decide +kernel
theorem dX3_empty_6 : decode cX3_empty 6 = .ok (.iconst 0, 1) := by decide +kernel
theorem dX3_empty_7 : decode cX3_empty 7 = .ok (.putfield 15, 3) := by decide +kernel
theorem dX3_empty_10 : decode cX3_empty 10 = .ok (.iload_n 1, 1) := by decide +kernel
theorem dX3_empty_11 : decode cX3_empty 11 = .ok (.ireturn, 1) := by decide +kernel
theorem dX3_letterAt_0 : decode cX3_letterAt 0 = .ok (.iload_n 1, 1) := by decide +kernel
theorem dX3_letterAt_1 : decode cX3_letterAt 1 = .ok (.ifCond .lt 20, 3) := by decide +kernel
theorem dX3_letterAt_4 : decode cX3_letterAt 4 = .ok (.iload_n 1, 1) := by decide +kernel
theorem dX3_letterAt_5 : decode cX3_letterAt 5 = .ok (.aload_n 0, 1) := by decide +kernel
theorem dX3_letterAt_6 : decode cX3_letterAt 6 = .ok (.getfield 15, 3) := by decide +kernel
theorem dX3_letterAt_9 : decode cX3_letterAt 9 = .ok (.if_icmp .ge 12, 3) := by decide +kernel
theorem dX3_letterAt_12 : decode cX3_letterAt 12 = .ok (.aload_n 0, 1) := by decide +kernel
theorem dX3_letterAt_13 : decode cX3_letterAt 13 = .ok (.getfield 9, 3) := by decide +kernel
theorem dX3_letterAt_16 : decode cX3_letterAt 16 = .ok (.iload_n 1, 1) := by decide +kernel
theorem dX3_letterAt_17 : decode cX3_letterAt 17 = .ok (.iaload, 1) := by decide +kernel
theorem dX3_letterAt_18 : decode cX3_letterAt 18 = .ok (.goto 4, 3) := by decide +kernel
theorem dX3_letterAt_21 : decode cX3_letterAt 21 = .ok (.iconst (-1), 1) := by decide +kernel
theorem dX3_letterAt_22 : decode cX3_letterAt 22 = .ok (.ireturn, 1) := by decide +kernel
theorem dX3_numberAt_0 : decode cX3_numberAt 0 = .ok (.bipush 10, 2) := by decide +kernel
theorem dX3_numberAt_2 : decode cX3_numberAt 2 = .ok (.aload_n 0, 1) := by decide +kernel
theorem dX3_numberAt_3 : decode cX3_numberAt 3 = .ok (.iload_n 1, 1) := by decide +kernel
theorem dX3_numberAt_4 : decode cX3_numberAt 4 = .ok (.invokevirtual 19, 3) := by decide +kernel
theorem dX3_numberAt_7 : decode cX3_numberAt 7 = .ok (.bipush 48, 2) := by decide +kernel
theorem dX3_numberAt_9 : decode cX3_numberAt 9 = .ok (.isub, 1) := by decide +kernel
theorem dX3_numberAt_10 : decode cX3_numberAt 10 = .ok (.imul, 1) := by decide +kernel
theorem dX3_numberAt_11 : decode cX3_numberAt 11 = .ok (.aload_n 0, 1) := by decide +kernel
theorem dX3_numberAt_12 : decode cX3_numberAt 12 = .ok (.iload_n 1, 1) := by decide +kernel
theorem dX3_numberAt_13 : decode cX3_numberAt 13 = .ok (.iconst 1, 1) := by decide +kernel
theorem dX3_numberAt_14 : decode cX3_numberAt 14 = .ok (.iadd, 1) := by decide +kernel
theorem dX3_numberAt_15 : decode cX3_numberAt 15 = .ok (.invokevirtual 19, 3) := by decide +kernel
theorem dX3_numberAt_18 : decode cX3_numberAt 18 = .ok (.iadd, 1) := by decide +kernel
theorem dX3_numberAt_19 : decode cX3_numberAt 19 = .ok (.bipush 48, 2) := by decide +kernel
theorem dX3_numberAt_21 : decode cX3_numberAt 21 = .ok (.isub, 1) := by decide +kernel
theorem dX3_numberAt_22 : decode cX3_numberAt 22 = .ok (.ireturn, 1) := by decide +kernel
theorem dX3_faultAsRule_0 : decode cX3_faultAsRule 0 = .ok (.iconst 0, 1) := by decide +kernel
theorem dX3_faultAsRule_1 : decode cX3_faultAsRule 1 = .ok (.istore_n 1, 1) := by decide +kernel
theorem dX3_faultAsRule_2 : decode cX3_faultAsRule 2 = .ok (.iload_n 1, 1) := by decide +kernel
theorem dX3_faultAsRule_3 : decode cX3_faultAsRule 3 = .ok (.aload_n 0, 1) := by decide +kernel
theorem dX3_faultAsRule_4 : decode cX3_faultAsRule 4 = .ok (.getfield 15, 3) := by decide +kernel
theorem dX3_faultAsRule_7 : decode cX3_faultAsRule 7 = .ok (.if_icmp .ge 69, 3) := by decide +kernel
theorem dX3_faultAsRule_10 : decode cX3_faultAsRule 10 = .ok (.iload_n 1, 1) := by decide +kernel
theorem dX3_faultAsRule_11 : decode cX3_faultAsRule 11 = .ok (.iconst 3, 1) := by decide +kernel
theorem dX3_faultAsRule_12 : decode cX3_faultAsRule 12 = .ok (.irem, 1) := by decide +kernel
theorem dX3_faultAsRule_13 : decode cX3_faultAsRule 13 = .ok (.istore_n 2, 1) := by decide +kernel
theorem dX3_faultAsRule_14 : decode cX3_faultAsRule 14 = .ok (.aload_n 0, 1) := by decide +kernel
theorem dX3_faultAsRule_15 : decode cX3_faultAsRule 15 = .ok (.iload_n 1, 1) := by decide +kernel
theorem dX3_faultAsRule_16 : decode cX3_faultAsRule 16 = .ok (.invokevirtual 19, 3) := by decide +kernel
theorem dX3_faultAsRule_19 : decode cX3_faultAsRule 19 = .ok (.istore_n 3, 1) := by decide +kernel
theorem dX3_faultAsRule_20 : decode cX3_faultAsRule 20 = .ok (.iload_n 1, 1) := by decide +kernel
theorem dX3_faultAsRule_21 : decode cX3_faultAsRule 21 = .ok (.bipush 36, 2) := by decide +kernel
theorem dX3_faultAsRule_23 : decode cX3_faultAsRule 23 = .ok (.if_icmp .ge 24, 3) := by decide +kernel
theorem dX3_faultAsRule_26 : decode cX3_faultAsRule 26 = .ok (.iload_n 2, 1) := by decide +kernel
theorem dX3_faultAsRule_27 : decode cX3_faultAsRule 27 = .ok (.ifCond .ne 13, 3) := by decide +kernel
theorem dX3_faultAsRule_30 : decode cX3_faultAsRule 30 = .ok (.iload_n 3, 1) := by decide +kernel
theorem dX3_faultAsRule_31 : decode cX3_faultAsRule 31 = .ok (.invokestatic 23, 3) := by decide +kernel
theorem dX3_faultAsRule_34 : decode cX3_faultAsRule 34 = .ok (.ifCond .eq 13, 3) := by decide +kernel
theorem dX3_faultAsRule_37 : decode cX3_faultAsRule 37 = .ok (.goto 12, 3) := by decide +kernel
theorem dX3_faultAsRule_40 : decode cX3_faultAsRule 40 = .ok (.iload_n 3, 1) := by decide +kernel
theorem dX3_faultAsRule_41 : decode cX3_faultAsRule 41 = .ok (.invokestatic 27, 3) := by decide +kernel
theorem dX3_faultAsRule_44 : decode cX3_faultAsRule 44 = .ok (.ifCond .ne 5, 3) := by decide +kernel
theorem dX3_faultAsRule_47 : decode cX3_faultAsRule 47 = .ok (.iload_n 1, 1) := by decide +kernel
theorem dX3_faultAsRule_48 : decode cX3_faultAsRule 48 = .ok (.ireturn, 1) := by decide +kernel
theorem dX3_faultAsRule_49 : decode cX3_faultAsRule 49 = .ok (.iload_n 2, 1) := by decide +kernel
theorem dX3_faultAsRule_50 : decode cX3_faultAsRule 50 = .ok (.ifCond .le 20, 3) := by decide +kernel
theorem dX3_faultAsRule_53 : decode cX3_faultAsRule 53 = .ok (.aload_n 0, 1) := by decide +kernel
theorem dX3_faultAsRule_54 : decode cX3_faultAsRule 54 = .ok (.iload_n 1, 1) := by decide +kernel
theorem dX3_faultAsRule_55 : decode cX3_faultAsRule 55 = .ok (.iload_n 2, 1) := by decide +kernel
theorem dX3_faultAsRule_56 : decode cX3_faultAsRule 56 = .ok (.isub, 1) := by decide +kernel
theorem dX3_faultAsRule_57 : decode cX3_faultAsRule 57 = .ok (.iload_n 2, 1) := by decide +kernel
theorem dX3_faultAsRule_58 : decode cX3_faultAsRule 58 = .ok (.invokevirtual 30, 3) := by decide +kernel
theorem dX3_faultAsRule_61 : decode cX3_faultAsRule 61 = .ok (.ifCond .eq 9, 3) := by decide +kernel
theorem dX3_faultAsRule_64 : decode cX3_faultAsRule 64 = .ok (.iload_n 1, 1) := by decide +kernel
theorem dX3_faultAsRule_65 : decode cX3_faultAsRule 65 = .ok (.iload_n 2, 1) := by decide +kernel
theorem dX3_faultAsRule_66 : decode cX3_faultAsRule 66 = .ok (.isub, 1) := by decide +kernel
theorem dX3_faultAsRule_67 : decode cX3_faultAsRule 67 = .ok (.iconst 1, 1) := by decide +kernel
theorem dX3_faultAsRule_68 : decode cX3_faultAsRule 68 = .ok (.iadd, 1) := by decide +kernel
theorem dX3_faultAsRule_69 : decode cX3_faultAsRule 69 = .ok (.ireturn, 1) := by decide +kernel
theorem dX3_faultAsRule_70 : decode cX3_faultAsRule 70 = .ok (.iinc 1 1, 3) := by decide +kernel
theorem dX3_faultAsRule_73 : decode cX3_faultAsRule 73 = .ok (.goto (-71), 3) := by decide +kernel
theorem dX3_faultAsRule_76 : decode cX3_faultAsRule 76 = .ok (.aload_n 0, 1) := by decide +kernel
theorem dX3_faultAsRule_77 : decode cX3_faultAsRule 77 = .ok (.getfield 15, 3) := by decide +kernel
theorem dX3_faultAsRule_80 : decode cX3_faultAsRule 80 = .ok (.ifCond .le 16, 3) := by decide +kernel
theorem dX3_faultAsRule_83 : decode cX3_faultAsRule 83 = .ok (.aload_n 0, 1) := by decide +kernel
theorem dX3_faultAsRule_84 : decode cX3_faultAsRule 84 = .ok (.getfield 15, 3) := by decide +kernel
theorem dX3_faultAsRule_87 : decode cX3_faultAsRule 87 = .ok (.iconst 3, 1) := by decide +kernel
theorem dX3_faultAsRule_88 : decode cX3_faultAsRule 88 = .ok (.irem, 1) := by decide +kernel
theorem dX3_faultAsRule_89 : decode cX3_faultAsRule 89 = .ok (.ifCond .ne 7, 3) := by decide +kernel
theorem dX3_faultAsRule_92 : decode cX3_faultAsRule 92 = .ok (.iconst (-1), 1) := by decide +kernel
theorem dX3_faultAsRule_93 : decode cX3_faultAsRule 93 = .ok (.goto 7, 3) := by decide +kernel
theorem dX3_faultAsRule_96 : decode cX3_faultAsRule 96 = .ok (.aload_n 0, 1) := by decide +kernel
theorem dX3_faultAsRule_97 : decode cX3_faultAsRule 97 = .ok (.getfield 15, 3) := by decide +kernel
theorem dX3_faultAsRule_100 : decode cX3_faultAsRule 100 = .ok (.ireturn, 1) := by decide +kernel
theorem dX3_tellsNoKey_0 : decode cX3_tellsNoKey 0 = .ok (.iload_n 2, 1) := by decide +kernel
theorem dX3_tellsNoKey_1 : decode cX3_tellsNoKey 1 = .ok (.iconst 1, 1) := by decide +kernel
theorem dX3_tellsNoKey_2 : decode cX3_tellsNoKey 2 = .ok (.if_icmp .ne 19, 3) := by decide +kernel
theorem dX3_tellsNoKey_5 : decode cX3_tellsNoKey 5 = .ok (.bipush 10, 2) := by decide +kernel
theorem dX3_tellsNoKey_7 : decode cX3_tellsNoKey 7 = .ok (.aload_n 0, 1) := by decide +kernel
theorem dX3_tellsNoKey_8 : decode cX3_tellsNoKey 8 = .ok (.iload_n 1, 1) := by decide +kernel
theorem dX3_tellsNoKey_9 : decode cX3_tellsNoKey 9 = .ok (.iconst 1, 1) := by decide +kernel
theorem dX3_tellsNoKey_10 : decode cX3_tellsNoKey 10 = .ok (.iadd, 1) := by decide +kernel
theorem dX3_tellsNoKey_11 : decode cX3_tellsNoKey 11 = .ok (.invokevirtual 19, 3) := by decide +kernel
theorem dX3_tellsNoKey_14 : decode cX3_tellsNoKey 14 = .ok (.bipush 48, 2) := by decide +kernel
theorem dX3_tellsNoKey_16 : decode cX3_tellsNoKey 16 = .ok (.isub, 1) := by decide +kernel
theorem dX3_tellsNoKey_17 : decode cX3_tellsNoKey 17 = .ok (.imul, 1) := by decide +kernel
theorem dX3_tellsNoKey_18 : decode cX3_tellsNoKey 18 = .ok (.goto 10, 3) := by decide +kernel
theorem dX3_tellsNoKey_21 : decode cX3_tellsNoKey 21 = .ok (.aload_n 0, 1) := by decide +kernel
theorem dX3_tellsNoKey_22 : decode cX3_tellsNoKey 22 = .ok (.iload_n 1, 1) := by decide +kernel
theorem dX3_tellsNoKey_23 : decode cX3_tellsNoKey 23 = .ok (.iconst 1, 1) := by decide +kernel
theorem dX3_tellsNoKey_24 : decode cX3_tellsNoKey 24 = .ok (.iadd, 1) := by decide +kernel
theorem dX3_tellsNoKey_25 : decode cX3_tellsNoKey 25 = .ok (.invokevirtual 34, 3) := by decide +kernel
theorem dX3_tellsNoKey_28 : decode cX3_tellsNoKey 28 = .ok (.istore_n 3, 1) := by decide +kernel
theorem dX3_tellsNoKey_29 : decode cX3_tellsNoKey 29 = .ok (.aload_n 0, 1) := by decide +kernel
theorem dX3_tellsNoKey_30 : decode cX3_tellsNoKey 30 = .ok (.iload_n 1, 1) := by decide +kernel
theorem dX3_tellsNoKey_31 : decode cX3_tellsNoKey 31 = .ok (.invokevirtual 19, 3) := by decide +kernel
theorem dX3_tellsNoKey_34 : decode cX3_tellsNoKey 34 = .ok (.invokestatic 37, 3) := by decide +kernel
theorem dX3_tellsNoKey_37 : decode cX3_tellsNoKey 37 = .ok (.ifCond .eq 14, 3) := by decide +kernel
theorem dX3_tellsNoKey_40 : decode cX3_tellsNoKey 40 = .ok (.iload_n 3, 1) := by decide +kernel
theorem dX3_tellsNoKey_41 : decode cX3_tellsNoKey 41 = .ok (.invokestatic 40, 3) := by decide +kernel
theorem dX3_tellsNoKey_44 : decode cX3_tellsNoKey 44 = .ok (.ifCond .ne 7, 3) := by decide +kernel
theorem dX3_tellsNoKey_47 : decode cX3_tellsNoKey 47 = .ok (.iconst 1, 1) := by decide +kernel
theorem dX3_tellsNoKey_48 : decode cX3_tellsNoKey 48 = .ok (.goto 4, 3) := by decide +kernel
theorem dX3_tellsNoKey_51 : decode cX3_tellsNoKey 51 = .ok (.iconst 0, 1) := by decide +kernel
theorem dX3_tellsNoKey_52 : decode cX3_tellsNoKey 52 = .ok (.ireturn, 1) := by decide +kernel
end
section
theorem dX4_init_0 : decode cX4_init 0 = .ok (.aload_n 0, 1) := by decide +kernel
theorem dX4_init_1 : decode cX4_init 1 = .ok (.invokespecial 3, 3) := by decide +kernel
theorem dX4_init_4 : decode cX4_init 4 = .ok (.aload_n 0, 1) := by decide +kernel
theorem dX4_init_5 : decode cX4_init 5 = .ok (.bipush 12, 2) := by decide +kernel
theorem dX4_init_7 : decode cX4_init 7 = .ok (.newarray .int, 2) := by decide +kernel
theorem dX4_init_9 : decode cX4_init 9 = .ok (.putfield 9, 3) := by decide +kernel
theorem dX4_init_12 : decode cX4_init 12 = .ok (.aload_n 0, 1) := by decide +kernel
theorem dX4_init_13 : decode cX4_init 13 = .ok (.bipush 12, 2) := by decide +kernel
theorem dX4_init_15 : decode cX4_init 15 = .ok (.newarray .int, 2) := by decide +kernel
theorem dX4_init_17 : decode cX4_init 17 = .ok (.putfield 15, 3) := by decide +kernel
theorem dX4_init_20 : decode cX4_init 20 = .ok (.aload_n 0, 1) := by decide +kernel
theorem dX4_init_21 : decode cX4_init 21 = .ok (.iconst (-1), 1) := by decide +kernel
theorem dX4_init_22 : decode cX4_init 22 = .ok (.putfield 18, 3) := by decide +kernel
theorem dX4_init_25 : decode cX4_init 25 = .ok (.aload_n 0, 1) := by decide +kernel
theorem dX4_init_26 : decode cX4_init 26 = .ok (.bipush 12, 2) := by decide +kernel
theorem dX4_init_28 : decode cX4_init 28 = .ok (.newarray .int, 2) := by decide +kernel
theorem dX4_init_30 : decode cX4_init 30 = .ok (.putfield 22, 3) := by decide +kernel
theorem dX4_init_33 : decode cX4_init 33 = .ok (.aload_n 0, 1) := by decide +kernel
theorem dX4_init_34 : decode cX4_init 34 = .ok (.bipush 12, 2) := by decide +kernel
theorem dX4_init_36 : decode cX4_init 36 = .ok (.anewarray 25, 3) := by decide +kernel
theorem dX4_init_39 : decode cX4_init 39 = .ok (.putfield 27, 3) := by decide +kernel
theorem dX4_init_42 : decode cX4_init 42 = .ok (.return_, 1) := by decide +kernel
theorem dX4_signAt_0 : decode cX4_signAt 0 = .ok (.iload_n 1, 1) := by decide +kernel
theorem dX4_signAt_1 : decode cX4_signAt 1 = .ok (.ifCond .lt 20, 3) := by decide +kernel
theorem dX4_signAt_4 : decode cX4_signAt 4 = .ok (.iload_n 1, 1) := by decide +kernel
theorem dX4_signAt_5 : decode cX4_signAt 5 = .ok (.aload_n 0, 1) := by decide +kernel
theorem dX4_signAt_6 : decode cX4_signAt 6 = .ok (.getfield 31, 3) := by decide +kernel
theorem dX4_signAt_9 : decode cX4_signAt 9 = .ok (.if_icmp .ge 12, 3) := by decide +kernel
theorem dX4_signAt_12 : decode cX4_signAt 12 = .ok (.aload_n 0, 1) := by decide +kernel
theorem dX4_signAt_13 : decode cX4_signAt 13 = .ok (.getfield 9, 3) := by decide +kernel
theorem dX4_signAt_16 : decode cX4_signAt 16 = .ok (.iload_n 1, 1) := by decide +kernel
theorem dX4_signAt_17 : decode cX4_signAt 17 = .ok (.iaload, 1) := by decide +kernel
theorem dX4_signAt_18 : decode cX4_signAt 18 = .ok (.goto 4, 3) := by decide +kernel
theorem dX4_signAt_21 : decode cX4_signAt 21 = .ok (.iconst (-1), 1) := by decide +kernel
theorem dX4_signAt_22 : decode cX4_signAt 22 = .ok (.ireturn, 1) := by decide +kernel
theorem dX4_figuresAt_0 : decode cX4_figuresAt 0 = .ok (.iload_n 1, 1) := by decide +kernel
theorem dX4_figuresAt_1 : decode cX4_figuresAt 1 = .ok (.ifCond .lt 20, 3) := by decide +kernel
theorem dX4_figuresAt_4 : decode cX4_figuresAt 4 = .ok (.iload_n 1, 1) := by decide +kernel
theorem dX4_figuresAt_5 : decode cX4_figuresAt 5 = .ok (.aload_n 0, 1) := by decide +kernel
theorem dX4_figuresAt_6 : decode cX4_figuresAt 6 = .ok (.getfield 31, 3) := by decide +kernel
theorem dX4_figuresAt_9 : decode cX4_figuresAt 9 = .ok (.if_icmp .ge 12, 3) := by decide +kernel
theorem dX4_figuresAt_12 : decode cX4_figuresAt 12 = .ok (.aload_n 0, 1) := by decide +kernel
theorem dX4_figuresAt_13 : decode cX4_figuresAt 13 = .ok (.getfield 15, 3) := by decide +kernel
theorem dX4_figuresAt_16 : decode cX4_figuresAt 16 = .ok (.iload_n 1, 1) := by decide +kernel
theorem dX4_figuresAt_17 : decode cX4_figuresAt 17 = .ok (.iaload, 1) := by decide +kernel
theorem dX4_figuresAt_18 : decode cX4_figuresAt 18 = .ok (.goto 4, 3) := by decide +kernel
theorem dX4_figuresAt_21 : decode cX4_figuresAt 21 = .ok (.iconst (-1), 1) := by decide +kernel
theorem dX4_figuresAt_22 : decode cX4_figuresAt 22 = .ok (.ireturn, 1) := by decide +kernel
theorem dX4_readRule_0 : decode cX4_readRule 0 = .ok (.aload_n 0, 1) := by decide +kernel
theorem dX4_readRule_1 : decode cX4_readRule 1 = .ok (.aload_n 1, 1) := by decide +kernel
theorem dX4_readRule_2 : decode cX4_readRule 2 = .ok (.getfield 34, 3) := by decide +kernel
theorem dX4_readRule_5 : decode cX4_readRule 5 = .ok (.iconst 3, 1) := by decide +kernel
theorem dX4_readRule_6 : decode cX4_readRule 6 = .ok (.idiv, 1) := by decide +kernel
theorem dX4_readRule_7 : decode cX4_readRule 7 = .ok (.bipush 12, 2) := by decide +kernel
theorem dX4_readRule_9 : decode cX4_readRule 9 = .ok (.invokestatic 39, 3) := by decide +kernel
theorem dX4_readRule_12 : decode cX4_readRule 12 = .ok (.putfield 31, 3) := by decide +kernel
theorem dX4_readRule_15 : decode cX4_readRule 15 = .ok (.iconst 0, 1) := by decide +kernel
theorem dX4_readRule_16 : decode cX4_readRule 16 = .ok (.istore_n 2, 1) := by decide +kernel
theorem dX4_readRule_17 : decode cX4_readRule 17 = .ok (.iload_n 2, 1) := by decide +kernel
theorem dX4_readRule_18 : decode cX4_readRule 18 = .ok (.aload_n 0, 1) := by decide +kernel
theorem dX4_readRule_19 : decode cX4_readRule 19 = .ok (.getfield 31, 3) := by decide +kernel
theorem dX4_readRule_22 : decode cX4_readRule 22 = .ok (.if_icmp .ge 37, 3) := by decide +kernel
theorem dX4_readRule_25 : decode cX4_readRule 25 = .ok (.aload_n 0, 1) := by decide +kernel
theorem dX4_readRule_26 : decode cX4_readRule 26 = .ok (.getfield 9, 3) := by decide +kernel
theorem dX4_readRule_29 : decode cX4_readRule 29 = .ok (.iload_n 2, 1) := by decide +kernel
theorem dX4_readRule_30 : decode cX4_readRule 30 = .ok (.aload_n 1, 1) := by decide +kernel
theorem dX4_readRule_31 : decode cX4_readRule 31 = .ok (.iload_n 2, 1) := by decide +kernel
theorem dX4_readRule_32 : decode cX4_readRule 32 = .ok (.iconst 3, 1) := by decide +kernel
theorem dX4_readRule_33 : decode cX4_readRule 33 = .ok (.imul, 1) := by decide +kernel
theorem dX4_readRule_34 : decode cX4_readRule 34 = .ok (.invokevirtual 45, 3) := by decide +kernel
theorem dX4_readRule_37 : decode cX4_readRule 37 = .ok (.iastore, 1) := by decide +kernel
theorem dX4_readRule_38 : decode cX4_readRule 38 = .ok (.aload_n 0, 1) := by decide +kernel
theorem dX4_readRule_39 : decode cX4_readRule 39 = .ok (.getfield 15, 3) := by decide +kernel
theorem dX4_readRule_42 : decode cX4_readRule 42 = .ok (.iload_n 2, 1) := by decide +kernel
theorem dX4_readRule_43 : decode cX4_readRule 43 = .ok (.aload_n 1, 1) := by decide +kernel
theorem dX4_readRule_44 : decode cX4_readRule 44 = .ok (.iload_n 2, 1) := by decide +kernel
theorem dX4_readRule_45 : decode cX4_readRule 45 = .ok (.iconst 3, 1) := by decide +kernel
theorem dX4_readRule_46 : decode cX4_readRule 46 = .ok (.imul, 1) := by decide +kernel
theorem dX4_readRule_47 : decode cX4_readRule 47 = .ok (.iconst 1, 1) := by decide +kernel
theorem dX4_readRule_48 : decode cX4_readRule 48 = .ok (.iadd, 1) := by decide +kernel
theorem dX4_readRule_49 : decode cX4_readRule 49 = .ok (.invokevirtual 49, 3) := by decide +kernel
theorem dX4_readRule_52 : decode cX4_readRule 52 = .ok (.iastore, 1) := by decide +kernel
theorem dX4_readRule_53 : decode cX4_readRule 53 = .ok (.iinc 2 1, 3) := by decide +kernel
theorem dX4_readRule_56 : decode cX4_readRule 56 = .ok (.goto (-39), 3) := by decide +kernel
theorem dX4_readRule_59 : decode cX4_readRule 59 = .ok (.aload_n 0, 1) := by decide +kernel
theorem dX4_readRule_60 : decode cX4_readRule 60 = .ok (.invokevirtual 52, 3) := by decide +kernel
theorem dX4_readRule_63 : decode cX4_readRule 63 = .ok (.return_, 1) := by decide +kernel
theorem dX4_takeRule_0 : decode cX4_takeRule 0 = .ok (.aload_n 0, 1) := by decide +kernel
theorem dX4_takeRule_1 : decode cX4_takeRule 1 = .ok (.aload_n 1, 1) := by decide +kernel
theorem dX4_takeRule_2 : decode cX4_takeRule 2 = .ok (.invokevirtual 55, 3) := by decide +kernel
theorem dX4_takeRule_5 : decode cX4_takeRule 5 = .ok (.aload_n 0, 1) := by decide +kernel
theorem dX4_takeRule_6 : decode cX4_takeRule 6 = .ok (.invokevirtual 52, 3) := by decide +kernel
theorem dX4_takeRule_9 : decode cX4_takeRule 9 = .ok (.return_, 1) := by decide +kernel
theorem dX4_copyRule_0 : decode cX4_copyRule 0 = .ok (.aload_n 0, 1) := by decide +kernel
theorem dX4_copyRule_1 : decode cX4_copyRule 1 = .ok (.aload_n 1, 1) := by decide +kernel
theorem dX4_copyRule_2 : decode cX4_copyRule 2 = .ok (.getfield 31, 3) := by decide +kernel
theorem dX4_copyRule_5 : decode cX4_copyRule 5 = .ok (.putfield 31, 3) := by decide +kernel
theorem dX4_copyRule_8 : decode cX4_copyRule 8 = .ok (.aload_n 1, 1) := by decide +kernel
theorem dX4_copyRule_9 : decode cX4_copyRule 9 = .ok (.getfield 9, 3) := by decide +kernel
theorem dX4_copyRule_12 : decode cX4_copyRule 12 = .ok (.iconst 0, 1) := by decide +kernel
theorem dX4_copyRule_13 : decode cX4_copyRule 13 = .ok (.aload_n 0, 1) := by decide +kernel
theorem dX4_copyRule_14 : decode cX4_copyRule 14 = .ok (.getfield 9, 3) := by decide +kernel
theorem dX4_copyRule_17 : decode cX4_copyRule 17 = .ok (.iconst 0, 1) := by decide +kernel
theorem dX4_copyRule_18 : decode cX4_copyRule 18 = .ok (.bipush 12, 2) := by decide +kernel
theorem dX4_copyRule_20 : decode cX4_copyRule 20 = .ok (.invokestatic 59, 3) := by decide +kernel
theorem dX4_copyRule_23 : decode cX4_copyRule 23 = .ok (.aload_n 1, 1) := by decide +kernel
theorem dX4_copyRule_24 : decode cX4_copyRule 24 = .ok (.getfield 15, 3) := by decide +kernel
theorem dX4_copyRule_27 : decode cX4_copyRule 27 = .ok (.iconst 0, 1) := by decide +kernel
theorem dX4_copyRule_28 : decode cX4_copyRule 28 = .ok (.aload_n 0, 1) := by decide +kernel
theorem dX4_copyRule_29 : decode cX4_copyRule 29 = .ok (.getfield 15, 3) := by decide +kernel
theorem dX4_copyRule_32 : decode cX4_copyRule 32 = .ok (.iconst 0, 1) := by decide +kernel
theorem dX4_copyRule_33 : decode cX4_copyRule 33 = .ok (.bipush 12, 2) := by decide +kernel
theorem dX4_copyRule_35 : decode cX4_copyRule 35 = .ok (.invokestatic 59, 3) := by decide +kernel
theorem dX4_copyRule_38 : decode cX4_copyRule 38 = .ok (.return_, 1) := by decide +kernel
theorem dX4_dropRule_0 : decode cX4_dropRule 0 = .ok (.aload_n 0, 1) := by decide +kernel
theorem dX4_dropRule_1 : decode cX4_dropRule 1 = .ok (.iconst 0, 1) := by decide +kernel
theorem dX4_dropRule_2 : decode cX4_dropRule 2 = .ok (.putfield 31, 3) := by decide +kernel
theorem dX4_dropRule_5 : decode cX4_dropRule 5 = .ok (.aload_n 0, 1) := by decide +kernel
theorem dX4_dropRule_6 : decode cX4_dropRule 6 = .ok (.invokevirtual 52, 3) := by decide +kernel
theorem dX4_dropRule_9 : decode cX4_dropRule 9 = .ok (.return_, 1) := by decide +kernel
theorem dX4_hasTrace_0 : decode cX4_hasTrace 0 = .ok (.aload_n 0, 1) := by decide +kernel
theorem dX4_hasTrace_1 : decode cX4_hasTrace 1 = .ok (.getfield 18, 3) := by decide +kernel
theorem dX4_hasTrace_4 : decode cX4_hasTrace 4 = .ok (.iconst (-1), 1) := by decide +kernel
theorem dX4_hasTrace_5 : decode cX4_hasTrace 5 = .ok (.if_icmp .eq 7, 3) := by decide +kernel
theorem dX4_hasTrace_8 : decode cX4_hasTrace 8 = .ok (.iconst 1, 1) := by decide +kernel
theorem dX4_hasTrace_9 : decode cX4_hasTrace 9 = .ok (.goto 4, 3) := by decide +kernel
theorem dX4_hasTrace_12 : decode cX4_hasTrace 12 = .ok (.iconst 0, 1) := by decide +kernel
theorem dX4_hasTrace_13 : decode cX4_hasTrace 13 = .ok (.ireturn, 1) := by decide +kernel
theorem dX4_dropTrace_0 : decode cX4_dropTrace 0 = .ok (.aload_n 0, 1) := by decide +kernel
theorem dX4_dropTrace_1 : decode cX4_dropTrace 1 = .ok (.iconst (-1), 1) := by decide +kernel
theorem dX4_dropTrace_2 : decode cX4_dropTrace 2 = .ok (.putfield 18, 3) := by decide +kernel
theorem dX4_dropTrace_5 : decode cX4_dropTrace 5 = .ok (.return_, 1) := by decide +kernel
theorem dX4_startTrace_0 : decode cX4_startTrace 0 = .ok (.aload_n 0, 1) := by decide +kernel
theorem dX4_startTrace_1 : decode cX4_startTrace 1 = .ok (.iconst 0, 1) := by decide +kernel
theorem dX4_startTrace_2 : decode cX4_startTrace 2 = .ok (.putfield 18, 3) := by decide +kernel
theorem dX4_startTrace_5 : decode cX4_startTrace 5 = .ok (.return_, 1) := by decide +kernel
theorem dX4_noteInTrace_0 : decode cX4_noteInTrace 0 = .ok (.aload_n 0, 1) := by decide +kernel
theorem dX4_noteInTrace_1 : decode cX4_noteInTrace 1 = .ok (.iload_n 1, 1) := by decide +kernel
theorem dX4_noteInTrace_2 : decode cX4_noteInTrace 2 = .ok (.invokevirtual 65, 3) := by decide +kernel
theorem dX4_noteInTrace_5 : decode cX4_noteInTrace 5 = .ok (.ifCond .ne 19, 3) := by decide +kernel
theorem dX4_noteInTrace_8 : decode cX4_noteInTrace 8 = .ok (.aload_n 0, 1) := by decide +kernel
theorem dX4_noteInTrace_9 : decode cX4_noteInTrace 9 = .ok (.getfield 18, 3) := by decide +kernel
theorem dX4_noteInTrace_12 : decode cX4_noteInTrace 12 = .ok (.ifCond .lt 12, 3) := by decide +kernel
theorem dX4_noteInTrace_15 : decode cX4_noteInTrace 15 = .ok (.aload_n 0, 1) := by decide +kernel
theorem dX4_noteInTrace_16 : decode cX4_noteInTrace 16 = .ok (.getfield 18, 3) := by decide +kernel
theorem dX4_noteInTrace_19 : decode cX4_noteInTrace 19 = .ok (.bipush 12, 2) := by decide +kernel
theorem dX4_noteInTrace_21 : decode cX4_noteInTrace 21 = .ok (.if_icmp .lt 4, 3) := by decide +kernel
theorem dX4_noteInTrace_24 : decode cX4_noteInTrace 24 = .ok (.return_, 1) := by decide +kernel
theorem dX4_noteInTrace_25 : decode cX4_noteInTrace 25 = .ok (.aload_n 0, 1) := by decide +kernel
theorem dX4_noteInTrace_26 : decode cX4_noteInTrace 26 = .ok (.getfield 22, 3) := by decide +kernel
theorem dX4_noteInTrace_29 : decode cX4_noteInTrace 29 = .ok (.aload_n 0, 1) := by decide +kernel
theorem dX4_noteInTrace_30 : decode cX4_noteInTrace 30 = .ok (.getfield 18, 3) := by decide +kernel
theorem dX4_noteInTrace_33 : decode cX4_noteInTrace 33 = .ok (.iload_n 1, 1) := by decide +kernel
theorem dX4_noteInTrace_34 : decode cX4_noteInTrace 34 = .ok (.iastore, 1) := by decide +kernel
theorem dX4_noteInTrace_35 : decode cX4_noteInTrace 35 = .ok (.aload_n 0, 1) := by decide +kernel
theorem dX4_noteInTrace_36 : decode cX4_noteInTrace 36 = .ok (.getfield 27, 3) := by decide +kernel
theorem dX4_noteInTrace_39 : decode cX4_noteInTrace 39 = .ok (.aload_n 0, 1) := by decide +kernel
theorem dX4_noteInTrace_40 : decode cX4_noteInTrace 40 = .ok (.getfield 18, 3) := by decide +kernel
theorem dX4_noteInTrace_43 : decode cX4_noteInTrace 43 = .ok (.aload_n 2, 1) := by decide +kernel
theorem dX4_noteInTrace_44 : decode cX4_noteInTrace 44 = .ok (.aastore, 1) := by decide +kernel
theorem dX4_noteInTrace_45 : decode cX4_noteInTrace 45 = .ok (.aload_n 0, 1) := by decide +kernel
theorem dX4_noteInTrace_46 : decode cX4_noteInTrace 46 = .ok (.dup, 1) := by decide +kernel
theorem dX4_noteInTrace_47 : decode cX4_noteInTrace 47 = .ok (.getfield 18, 3) := by decide +kernel
theorem dX4_noteInTrace_50 : decode cX4_noteInTrace 50 = .ok (.iconst 1, 1) := by decide +kernel
theorem dX4_noteInTrace_51 : decode cX4_noteInTrace 51 = .ok (.iadd, 1) := by decide +kernel
theorem dX4_noteInTrace_52 : decode cX4_noteInTrace 52 = .ok (.putfield 18, 3) := by decide +kernel
theorem dX4_noteInTrace_55 : decode cX4_noteInTrace 55 = .ok (.return_, 1) := by decide +kernel
theorem dX4_traces_0 : decode cX4_traces 0 = .ok (.iconst 0, 1) := by decide +kernel
theorem dX4_traces_1 : decode cX4_traces 1 = .ok (.istore_n 2, 1) := by decide +kernel
theorem dX4_traces_2 : decode cX4_traces 2 = .ok (.iload_n 2, 1) := by decide +kernel
theorem dX4_traces_3 : decode cX4_traces 3 = .ok (.aload_n 0, 1) := by decide +kernel
theorem dX4_traces_4 : decode cX4_traces 4 = .ok (.getfield 18, 3) := by decide +kernel
theorem dX4_traces_7 : decode cX4_traces 7 = .ok (.if_icmp .ge 20, 3) := by decide +kernel
theorem dX4_traces_10 : decode cX4_traces 10 = .ok (.aload_n 0, 1) := by decide +kernel
theorem dX4_traces_11 : decode cX4_traces 11 = .ok (.iload_n 2, 1) := by decide +kernel
theorem dX4_traces_12 : decode cX4_traces 12 = .ok (.invokevirtual 69, 3) := by decide +kernel
theorem dX4_traces_15 : decode cX4_traces 15 = .ok (.iload_n 1, 1) := by decide +kernel
theorem dX4_traces_16 : decode cX4_traces 16 = .ok (.if_icmp .ne 5, 3) := by decide +kernel
theorem dX4_traces_19 : decode cX4_traces 19 = .ok (.iconst 1, 1) := by decide +kernel
theorem dX4_traces_20 : decode cX4_traces 20 = .ok (.ireturn, 1) := by decide +kernel
theorem dX4_traces_21 : decode cX4_traces 21 = .ok (.iinc 2 1, 3) := by decide +kernel
theorem dX4_traces_24 : decode cX4_traces 24 = .ok (.goto (-22), 3) := by decide +kernel
theorem dX4_traces_27 : decode cX4_traces 27 = .ok (.iconst 0, 1) := by decide +kernel
theorem dX4_traces_28 : decode cX4_traces 28 = .ok (.ireturn, 1) := by decide +kernel
theorem dX4_tracedKey_0 : decode cX4_tracedKey 0 = .ok (.iload_n 1, 1) := by decide +kernel
theorem dX4_tracedKey_1 : decode cX4_tracedKey 1 = .ok (.ifCond .lt 20, 3) := by decide +kernel
theorem dX4_tracedKey_4 : decode cX4_tracedKey 4 = .ok (.iload_n 1, 1) := by decide +kernel
theorem dX4_tracedKey_5 : decode cX4_tracedKey 5 = .ok (.aload_n 0, 1) := by decide +kernel
theorem dX4_tracedKey_6 : decode cX4_tracedKey 6 = .ok (.getfield 18, 3) := by decide +kernel
theorem dX4_tracedKey_9 : decode cX4_tracedKey 9 = .ok (.if_icmp .ge 12, 3) := by decide +kernel
theorem dX4_tracedKey_12 : decode cX4_tracedKey 12 = .ok (.aload_n 0, 1) := by decide +kernel
theorem dX4_tracedKey_13 : decode cX4_tracedKey 13 = .ok (.getfield 22, 3) := by decide +kernel
theorem dX4_tracedKey_16 : decode cX4_tracedKey 16 = .ok (.iload_n 1, 1) := by decide +kernel
theorem dX4_tracedKey_17 : decode cX4_tracedKey 17 = .ok (.iaload, 1) := by decide +kernel
theorem dX4_tracedKey_18 : decode cX4_tracedKey 18 = .ok (.goto 4, 3) := by decide +kernel
theorem dX4_tracedKey_21 : decode cX4_tracedKey 21 = .ok (.iconst (-1), 1) := by decide +kernel
theorem dX4_tracedKey_22 : decode cX4_tracedKey 22 = .ok (.ireturn, 1) := by decide +kernel
theorem dX4_tracedResult_0 : decode cX4_tracedResult 0 = .ok (.iload_n 1, 1) := by decide +kernel
theorem dX4_tracedResult_1 : decode cX4_tracedResult 1 = .ok (.ifCond .lt 20, 3) := by decide +kernel
theorem dX4_tracedResult_4 : decode cX4_tracedResult 4 = .ok (.iload_n 1, 1) := by decide +kernel
theorem dX4_tracedResult_5 : decode cX4_tracedResult 5 = .ok (.aload_n 0, 1) := by decide +kernel
theorem dX4_tracedResult_6 : decode cX4_tracedResult 6 = .ok (.getfield 18, 3) := by decide +kernel
theorem dX4_tracedResult_9 : decode cX4_tracedResult 9 = .ok (.if_icmp .ge 12, 3) := by decide +kernel
theorem dX4_tracedResult_12 : decode cX4_tracedResult 12 = .ok (.aload_n 0, 1) := by decide +kernel
theorem dX4_tracedResult_13 : decode cX4_tracedResult 13 = .ok (.getfield 27, 3) := by decide +kernel
theorem dX4_tracedResult_16 : decode cX4_tracedResult 16 = .ok (.iload_n 1, 1) := by decide +kernel
theorem dX4_tracedResult_17 : decode cX4_tracedResult 17 = .ok (.aaload, 1) := by decide +kernel
theorem dX4_tracedResult_18 : decode cX4_tracedResult 18 = .ok (.goto 4, 3) := by decide +kernel
theorem dX4_tracedResult_21 : decode cX4_tracedResult 21 = .ok (.aconst_null, 1) := by decide +kernel
theorem dX4_tracedResult_22 : decode cX4_tracedResult 22 = .ok (.areturn, 1) := by decide +kernel
theorem dX4_copyFrom_0 : decode cX4_copyFrom 0 = .ok (.aload_n 0, 1) := by decide +kernel
theorem dX4_copyFrom_1 : decode cX4_copyFrom 1 = .ok (.aload_n 1, 1) := by decide +kernel
theorem dX4_copyFrom_2 : decode cX4_copyFrom 2 = .ok (.invokevirtual 55, 3) := by decide +kernel
theorem dX4_copyFrom_5 : decode cX4_copyFrom 5 = .ok (.aload_n 0, 1) := by decide +kernel
theorem dX4_copyFrom_6 : decode cX4_copyFrom 6 = .ok (.aload_n 1, 1) := by decide +kernel
theorem dX4_copyFrom_7 : decode cX4_copyFrom 7 = .ok (.getfield 72, 3) := by decide +kernel
theorem dX4_copyFrom_10 : decode cX4_copyFrom 10 = .ok (.putfield 72, 3) := by decide +kernel
theorem dX4_copyFrom_13 : decode cX4_copyFrom 13 = .ok (.aload_n 0, 1) := by decide +kernel
theorem dX4_copyFrom_14 : decode cX4_copyFrom 14 = .ok (.aload_n 1, 1) := by decide +kernel
theorem dX4_copyFrom_15 : decode cX4_copyFrom 15 = .ok (.getfield 18, 3) := by decide +kernel
theorem dX4_copyFrom_18 : decode cX4_copyFrom 18 = .ok (.putfield 18, 3) := by decide +kernel
theorem dX4_copyFrom_21 : decode cX4_copyFrom 21 = .ok (.aload_n 1, 1) := by decide +kernel
theorem dX4_copyFrom_22 : decode cX4_copyFrom 22 = .ok (.getfield 22, 3) := by decide +kernel
theorem dX4_copyFrom_25 : decode cX4_copyFrom 25 = .ok (.iconst 0, 1) := by decide +kernel
theorem dX4_copyFrom_26 : decode cX4_copyFrom 26 = .ok (.aload_n 0, 1) := by decide +kernel
theorem dX4_copyFrom_27 : decode cX4_copyFrom 27 = .ok (.getfield 22, 3) := by decide +kernel
theorem dX4_copyFrom_30 : decode cX4_copyFrom 30 = .ok (.iconst 0, 1) := by decide +kernel
theorem dX4_copyFrom_31 : decode cX4_copyFrom 31 = .ok (.bipush 12, 2) := by decide +kernel
theorem dX4_copyFrom_33 : decode cX4_copyFrom 33 = .ok (.invokestatic 59, 3) := by decide +kernel
theorem dX4_copyFrom_36 : decode cX4_copyFrom 36 = .ok (.iconst 0, 1) := by decide +kernel
theorem dX4_copyFrom_37 : decode cX4_copyFrom 37 = .ok (.istore_n 2, 1) := by decide +kernel
theorem dX4_copyFrom_38 : decode cX4_copyFrom 38 = .ok (.iload_n 2, 1) := by decide +kernel
theorem dX4_copyFrom_39 : decode cX4_copyFrom 39 = .ok (.bipush 12, 2) := by decide +kernel
theorem dX4_copyFrom_41 : decode cX4_copyFrom 41 = .ok (.if_icmp .ge 21, 3) := by decide +kernel
theorem dX4_copyFrom_44 : decode cX4_copyFrom 44 = .ok (.aload_n 0, 1) := by decide +kernel
theorem dX4_copyFrom_45 : decode cX4_copyFrom 45 = .ok (.getfield 27, 3) := by decide +kernel
theorem dX4_copyFrom_48 : decode cX4_copyFrom 48 = .ok (.iload_n 2, 1) := by decide +kernel
theorem dX4_copyFrom_49 : decode cX4_copyFrom 49 = .ok (.aload_n 1, 1) := by decide +kernel
theorem dX4_copyFrom_50 : decode cX4_copyFrom 50 = .ok (.getfield 27, 3) := by decide +kernel
theorem dX4_copyFrom_53 : decode cX4_copyFrom 53 = .ok (.iload_n 2, 1) := by decide +kernel
theorem dX4_copyFrom_54 : decode cX4_copyFrom 54 = .ok (.aaload, 1) := by decide +kernel
theorem dX4_copyFrom_55 : decode cX4_copyFrom 55 = .ok (.aastore, 1) := by decide +kernel
theorem dX4_copyFrom_56 : decode cX4_copyFrom 56 = .ok (.iinc 2 1, 3) := by decide +kernel
theorem dX4_copyFrom_59 : decode cX4_copyFrom 59 = .ok (.goto (-21), 3) := by decide +kernel
theorem dX4_copyFrom_62 : decode cX4_copyFrom 62 = .ok (.return_, 1) := by decide +kernel
theorem dX5_init_0 : decode cX5_init 0 = .ok (.aload_n 0, 1) := by decide +kernel
theorem dX5_init_1 : decode cX5_init 1 = .ok (.invokespecial 3, 3) := by decide +kernel
theorem dX5_init_4 : decode cX5_init 4 = .ok (.aload_n 0, 1) := by decide +kernel
theorem dX5_init_5 : decode cX5_init 5 = .ok (.bipush 8, 2) := by decide +kernel
theorem dX5_init_7 : decode cX5_init 7 = .ok (.anewarray 9, 3) := by decide +kernel
theorem dX5_init_10 : decode cX5_init 10 = .ok (.putfield 11, 3) := by decide +kernel
theorem dX5_init_13 : decode cX5_init 13 = .ok (.aload_n 0, 1) := by decide +kernel
theorem dX5_init_14 : decode cX5_init 14 = .ok (.bipush 16, 2) := by decide +kernel
theorem dX5_init_16 : decode cX5_init 16 = .ok (.anewarray 17, 3) := by decide +kernel
theorem dX5_init_19 : decode cX5_init 19 = .ok (.putfield 19, 3) := by decide +kernel
theorem dX5_init_22 : decode cX5_init 22 = .ok (.aload_n 0, 1) := by decide +kernel
theorem dX5_init_23 : decode cX5_init 23 = .ok (.bipush 24, 2) := by decide +kernel
theorem dX5_init_25 : decode cX5_init 25 = .ok (.anewarray 9, 3) := by decide +kernel
theorem dX5_init_28 : decode cX5_init 28 = .ok (.putfield 23, 3) := by decide +kernel
theorem dX5_init_31 : decode cX5_init 31 = .ok (.aload_n 0, 1) := by decide +kernel
theorem dX5_init_32 : decode cX5_init 32 = .ok (.bipush 24, 2) := by decide +kernel
theorem dX5_init_34 : decode cX5_init 34 = .ok (.newarray .int, 2) := by decide +kernel
theorem dX5_init_36 : decode cX5_init 36 = .ok (.putfield 26, 3) := by decide +kernel
theorem dX5_init_39 : decode cX5_init 39 = .ok (.iconst 0, 1) := by decide +kernel
theorem dX5_init_40 : decode cX5_init 40 = .ok (.istore_n 1, 1) := by decide +kernel
theorem dX5_init_41 : decode cX5_init 41 = .ok (.iload_n 1, 1) := by decide +kernel
theorem dX5_init_42 : decode cX5_init 42 = .ok (.bipush 16, 2) := by decide +kernel
theorem dX5_init_44 : decode cX5_init 44 = .ok (.if_icmp .ge 22, 3) := by decide +kernel
theorem dX5_init_47 : decode cX5_init 47 = .ok (.aload_n 0, 1) := by decide +kernel
theorem dX5_init_48 : decode cX5_init 48 = .ok (.getfield 19, 3) := by decide +kernel
theorem dX5_init_51 : decode cX5_init 51 = .ok (.iload_n 1, 1) := by decide +kernel
theorem dX5_init_52 : decode cX5_init 52 = .ok (.new 17, 3) := by decide +kernel
theorem dX5_init_55 : decode cX5_init 55 = .ok (.dup, 1) := by decide +kernel
theorem dX5_init_56 : decode cX5_init 56 = .ok (.invokespecial 30, 3) := by decide +kernel
theorem dX5_init_59 : decode cX5_init 59 = .ok (.aastore, 1) := by decide +kernel
theorem dX5_init_60 : decode cX5_init 60 = .ok (.iinc 1 1, 3) := by decide +kernel
theorem dX5_init_63 : decode cX5_init 63 = .ok (.goto (-22), 3) := by decide +kernel
theorem dX5_init_66 : decode cX5_init 66 = .ok (.iconst 0, 1) := by decide +kernel
theorem dX5_init_67 : decode cX5_init 67 = .ok (.istore_n 1, 1) := by decide +kernel
theorem dX5_init_68 : decode cX5_init 68 = .ok (.iload_n 1, 1) := by decide +kernel
theorem dX5_init_69 : decode cX5_init 69 = .ok (.bipush 24, 2) := by decide +kernel
theorem dX5_init_71 : decode cX5_init 71 = .ok (.if_icmp .ge 23, 3) := by decide +kernel
theorem dX5_init_74 : decode cX5_init 74 = .ok (.aload_n 0, 1) := by decide +kernel
theorem dX5_init_75 : decode cX5_init 75 = .ok (.getfield 23, 3) := by decide +kernel
theorem dX5_init_78 : decode cX5_init 78 = .ok (.iload_n 1, 1) := by decide +kernel
theorem dX5_init_79 : decode cX5_init 79 = .ok (.iload_n 1, 1) := by decide +kernel
theorem dX5_init_80 : decode cX5_init 80 = .ok (.bipush 6, 2) := by decide +kernel
theorem dX5_init_82 : decode cX5_init 82 = .ok (.iconst (-1), 1) := by decide +kernel
theorem dX5_init_83 : decode cX5_init 83 = .ok (.aconst_null, 1) := by decide +kernel
theorem dX5_init_84 : decode cX5_init 84 = .ok (.invokestatic 31, 3) := by decide +kernel
theorem dX5_init_87 : decode cX5_init 87 = .ok (.aastore, 1) := by decide +kernel
theorem dX5_init_88 : decode cX5_init 88 = .ok (.iinc 1 1, 3) := by decide +kernel
theorem dX5_init_91 : decode cX5_init 91 = .ok (.goto (-23), 3) := by decide +kernel
theorem dX5_init_94 : decode cX5_init 94 = .ok (.return_, 1) := by decide +kernel
theorem dX5_targetOf_0 : decode cX5_targetOf 0 = .ok (.iload_n 1, 1) := by decide +kernel
theorem dX5_targetOf_1 : decode cX5_targetOf 1 = .ok (.invokestatic 35, 3) := by decide +kernel
theorem dX5_targetOf_4 : decode cX5_targetOf 4 = .ok (.ifCond .eq 15, 3) := by decide +kernel
theorem dX5_targetOf_7 : decode cX5_targetOf 7 = .ok (.aload_n 0, 1) := by decide +kernel
theorem dX5_targetOf_8 : decode cX5_targetOf 8 = .ok (.getfield 19, 3) := by decide +kernel
theorem dX5_targetOf_11 : decode cX5_targetOf 11 = .ok (.iload_n 1, 1) := by decide +kernel
theorem dX5_targetOf_12 : decode cX5_targetOf 12 = .ok (.bipush 8, 2) := by decide +kernel
theorem dX5_targetOf_14 : decode cX5_targetOf 14 = .ok (.isub, 1) := by decide +kernel
theorem dX5_targetOf_15 : decode cX5_targetOf 15 = .ok (.aaload, 1) := by decide +kernel
theorem dX5_targetOf_16 : decode cX5_targetOf 16 = .ok (.goto 4, 3) := by decide +kernel
theorem dX5_targetOf_19 : decode cX5_targetOf 19 = .ok (.aconst_null, 1) := by decide +kernel
theorem dX5_targetOf_20 : decode cX5_targetOf 20 = .ok (.areturn, 1) := by decide +kernel
theorem dX5_contentOf_0 : decode cX5_contentOf 0 = .ok (.iload_n 1, 1) := by decide +kernel
theorem dX5_contentOf_1 : decode cX5_contentOf 1 = .ok (.invokestatic 39, 3) := by decide +kernel
theorem dX5_contentOf_4 : decode cX5_contentOf 4 = .ok (.ifCond .eq 12, 3) := by decide +kernel
theorem dX5_contentOf_7 : decode cX5_contentOf 7 = .ok (.aload_n 0, 1) := by decide +kernel
theorem dX5_contentOf_8 : decode cX5_contentOf 8 = .ok (.getfield 11, 3) := by decide +kernel
theorem dX5_contentOf_11 : decode cX5_contentOf 11 = .ok (.iload_n 1, 1) := by decide +kernel
theorem dX5_contentOf_12 : decode cX5_contentOf 12 = .ok (.aaload, 1) := by decide +kernel
theorem dX5_contentOf_13 : decode cX5_contentOf 13 = .ok (.goto 4, 3) := by decide +kernel
theorem dX5_contentOf_16 : decode cX5_contentOf 16 = .ok (.aconst_null, 1) := by decide +kernel
theorem dX5_contentOf_17 : decode cX5_contentOf 17 = .ok (.areturn, 1) := by decide +kernel
theorem dX5_giveContent_0 : decode cX5_giveContent 0 = .ok (.aload_n 0, 1) := by decide +kernel
theorem dX5_giveContent_1 : decode cX5_giveContent 1 = .ok (.iload_n 1, 1) := by decide +kernel
theorem dX5_giveContent_2 : decode cX5_giveContent 2 = .ok (.invokevirtual 42, 3) := by decide +kernel
theorem dX5_giveContent_5 : decode cX5_giveContent 5 = .ok (.astore_n 3, 1) := by decide +kernel
theorem dX5_giveContent_6 : decode cX5_giveContent 6 = .ok (.iload_n 1, 1) := by decide +kernel
theorem dX5_giveContent_7 : decode cX5_giveContent 7 = .ok (.invokestatic 39, 3) := by decide +kernel
theorem dX5_giveContent_10 : decode cX5_giveContent 10 = .ok (.ifCond .eq 15, 3) := by decide +kernel
theorem dX5_giveContent_13 : decode cX5_giveContent 13 = .ok (.aload_n 3, 1) := by decide +kernel
theorem dX5_giveContent_14 : decode cX5_giveContent 14 = .ok (.ifnull 13, 3) := by decide +kernel
theorem dX5_giveContent_17 : decode cX5_giveContent 17 = .ok (.aload_n 3, 1) := by decide +kernel
theorem dX5_giveContent_18 : decode cX5_giveContent 18 = .ok (.getfield 46, 3) := by decide +kernel
theorem dX5_giveContent_21 : decode cX5_giveContent 21 = .ok (.iload_n 2, 1) := by decide +kernel
theorem dX5_giveContent_22 : decode cX5_giveContent 22 = .ok (.if_icmp .ne 5, 3) := by decide +kernel
theorem dX5_giveContent_25 : decode cX5_giveContent 25 = .ok (.iconst 0, 1) := by decide +kernel
theorem dX5_giveContent_26 : decode cX5_giveContent 26 = .ok (.ireturn, 1) := by decide +kernel
theorem dX5_giveContent_27 : decode cX5_giveContent 27 = .ok (.aload_n 0, 1) := by decide +kernel
theorem dX5_giveContent_28 : decode cX5_giveContent 28 = .ok (.getfield 11, 3) := by decide +kernel
theorem dX5_giveContent_31 : decode cX5_giveContent 31 = .ok (.iload_n 1, 1) := by decide +kernel
theorem dX5_giveContent_32 : decode cX5_giveContent 32 = .ok (.iload_n 2, 1) := by decide +kernel
theorem dX5_giveContent_33 : decode cX5_giveContent 33 = .ok (.invokestatic 50, 3) := by decide +kernel
theorem dX5_giveContent_36 : decode cX5_giveContent 36 = .ok (.aastore, 1) := by decide +kernel
theorem dX5_giveContent_37 : decode cX5_giveContent 37 = .ok (.iconst 1, 1) := by decide +kernel
theorem dX5_giveContent_38 : decode cX5_giveContent 38 = .ok (.ireturn, 1) := by decide +kernel
theorem dX5_takeContent_0 : decode cX5_takeContent 0 = .ok (.iload_n 1, 1) := by decide +kernel
theorem dX5_takeContent_1 : decode cX5_takeContent 1 = .ok (.invokestatic 39, 3) := by decide +kernel
theorem dX5_takeContent_4 : decode cX5_takeContent 4 = .ok (.ifCond .eq 10, 3) := by decide +kernel
theorem dX5_takeContent_7 : decode cX5_takeContent 7 = .ok (.aload_n 0, 1) := by decide +kernel
theorem dX5_takeContent_8 : decode cX5_takeContent 8 = .ok (.getfield 11, 3) := by decide +kernel
theorem dX5_takeContent_11 : decode cX5_takeContent 11 = .ok (.iload_n 1, 1) := by decide +kernel
theorem dX5_takeContent_12 : decode cX5_takeContent 12 = .ok (.aconst_null, 1) := by decide +kernel
theorem dX5_takeContent_13 : decode cX5_takeContent 13 = .ok (.aastore, 1) := by decide +kernel
theorem dX5_takeContent_14 : decode cX5_takeContent 14 = .ok (.return_, 1) := by decide +kernel
theorem dX5_emptyOf_0 : decode cX5_emptyOf 0 = .ok (.iload_n 1, 1) := by decide +kernel
theorem dX5_emptyOf_1 : decode cX5_emptyOf 1 = .ok (.invokestatic 53, 3) := by decide +kernel
theorem dX5_emptyOf_4 : decode cX5_emptyOf 4 = .ok (.ifCond .eq 12, 3) := by decide +kernel
theorem dX5_emptyOf_7 : decode cX5_emptyOf 7 = .ok (.aload_n 0, 1) := by decide +kernel
theorem dX5_emptyOf_8 : decode cX5_emptyOf 8 = .ok (.getfield 23, 3) := by decide +kernel
theorem dX5_emptyOf_11 : decode cX5_emptyOf 11 = .ok (.iload_n 1, 1) := by decide +kernel
theorem dX5_emptyOf_12 : decode cX5_emptyOf 12 = .ok (.aaload, 1) := by decide +kernel
theorem dX5_emptyOf_13 : decode cX5_emptyOf 13 = .ok (.goto 4, 3) := by decide +kernel
theorem dX5_emptyOf_16 : decode cX5_emptyOf 16 = .ok (.aconst_null, 1) := by decide +kernel
theorem dX5_emptyOf_17 : decode cX5_emptyOf 17 = .ok (.areturn, 1) := by decide +kernel
theorem dX5_resultOf_0 : decode cX5_resultOf 0 = .ok (.aload_n 0, 1) := by decide +kernel
theorem dX5_resultOf_1 : decode cX5_resultOf 1 = .ok (.iload_n 1, 1) := by decide +kernel
theorem dX5_resultOf_2 : decode cX5_resultOf 2 = .ok (.invokevirtual 56, 3) := by decide +kernel
theorem dX5_resultOf_5 : decode cX5_resultOf 5 = .ok (.astore_n 2, 1) := by decide +kernel
theorem dX5_resultOf_6 : decode cX5_resultOf 6 = .ok (.aload_n 2, 1) := by decide +kernel
theorem dX5_resultOf_7 : decode cX5_resultOf 7 = .ok (.ifnull 8, 3) := by decide +kernel
theorem dX5_resultOf_10 : decode cX5_resultOf 10 = .ok (.aload_n 2, 1) := by decide +kernel
theorem dX5_resultOf_11 : decode cX5_resultOf 11 = .ok (.getfield 60, 3) := by decide +kernel
theorem dX5_resultOf_14 : decode cX5_resultOf 14 = .ok (.areturn, 1) := by decide +kernel
theorem dX5_resultOf_15 : decode cX5_resultOf 15 = .ok (.aload_n 0, 1) := by decide +kernel
theorem dX5_resultOf_16 : decode cX5_resultOf 16 = .ok (.iload_n 1, 1) := by decide +kernel
theorem dX5_resultOf_17 : decode cX5_resultOf 17 = .ok (.invokevirtual 42, 3) := by decide +kernel
theorem dX5_resultOf_20 : decode cX5_resultOf 20 = .ok (.astore_n 3, 1) := by decide +kernel
theorem dX5_resultOf_21 : decode cX5_resultOf 21 = .ok (.aload_n 3, 1) := by decide +kernel
theorem dX5_resultOf_22 : decode cX5_resultOf 22 = .ok (.ifnonnull 11, 3) := by decide +kernel
theorem dX5_resultOf_25 : decode cX5_resultOf 25 = .ok (.aload_n 0, 1) := by decide +kernel
theorem dX5_resultOf_26 : decode cX5_resultOf 26 = .ok (.iload_n 1, 1) := by decide +kernel
theorem dX5_resultOf_27 : decode cX5_resultOf 27 = .ok (.invokevirtual 64, 3) := by decide +kernel
theorem dX5_resultOf_30 : decode cX5_resultOf 30 = .ok (.goto 4, 3) := by decide +kernel
theorem dX5_resultOf_33 : decode cX5_resultOf 33 = .ok (.aload_n 3, 1) := by decide +kernel
theorem dX5_resultOf_34 : decode cX5_resultOf 34 = .ok (.areturn, 1) := by decide +kernel
theorem dX5_failureOf_0 : decode cX5_failureOf 0 = .ok (.aload_n 0, 1) := by decide +kernel
theorem dX5_failureOf_1 : decode cX5_failureOf 1 = .ok (.iload_n 1, 1) := by decide +kernel
theorem dX5_failureOf_2 : decode cX5_failureOf 2 = .ok (.invokevirtual 67, 3) := by decide +kernel
theorem dX5_failureOf_5 : decode cX5_failureOf 5 = .ok (.astore_n 2, 1) := by decide +kernel
theorem dX5_failureOf_6 : decode cX5_failureOf 6 = .ok (.aload_n 2, 1) := by decide +kernel
theorem dX5_failureOf_7 : decode cX5_failureOf 7 = .ok (.ifnull 14, 3) := by decide +kernel
theorem dX5_failureOf_10 : decode cX5_failureOf 10 = .ok (.aload_n 2, 1) := by decide +kernel
theorem dX5_failureOf_11 : decode cX5_failureOf 11 = .ok (.invokevirtual 70, 3) := by decide +kernel
theorem dX5_failureOf_14 : decode cX5_failureOf 14 = .ok (.ifCond .eq 7, 3) := by decide +kernel
theorem dX5_failureOf_17 : decode cX5_failureOf 17 = .ok (.aload_n 2, 1) := by decide +kernel
theorem dX5_failureOf_18 : decode cX5_failureOf 18 = .ok (.goto 4, 3) := by decide +kernel
theorem dX5_failureOf_21 : decode cX5_failureOf 21 = .ok (.aconst_null, 1) := by decide +kernel
theorem dX5_failureOf_22 : decode cX5_failureOf 22 = .ok (.areturn, 1) := by decide +kernel
theorem dX5_toldResult_0 : decode cX5_toldResult 0 = .ok (.aload_n 0, 1) := by decide +kernel
theorem dX5_toldResult_1 : decode cX5_toldResult 1 = .ok (.iload_n 1, 1) := by decide +kernel
theorem dX5_toldResult_2 : decode cX5_toldResult 2 = .ok (.invokevirtual 67, 3) := by decide +kernel
theorem dX5_toldResult_5 : decode cX5_toldResult 5 = .ok (.astore_n 2, 1) := by decide +kernel
theorem dX5_toldResult_6 : decode cX5_toldResult 6 = .ok (.aload_n 2, 1) := by decide +kernel
theorem dX5_toldResult_7 : decode cX5_toldResult 7 = .ok (.ifnonnull 8, 3) := by decide +kernel
theorem dX5_toldResult_10 : decode cX5_toldResult 10 = .ok (.ldc 74, 2) := by decide +kernel
theorem dX5_toldResult_12 : decode cX5_toldResult 12 = .ok (.goto 7, 3) := by decide +kernel
theorem dX5_toldResult_15 : decode cX5_toldResult 15 = .ok (.aload_n 2, 1) := by decide +kernel
theorem dX5_toldResult_16 : decode cX5_toldResult 16 = .ok (.invokevirtual 75, 3) := by decide +kernel
theorem dX5_toldResult_19 : decode cX5_toldResult 19 = .ok (.ireturn, 1) := by decide +kernel
theorem dX5_targetsFailingBy_0 : decode cX5_targetsFailingBy 0 = .ok (.iconst 0, 1) := by decide +kernel
theorem dX5_targetsFailingBy_1 : decode cX5_targetsFailingBy 1 = .ok (.istore_n 2, 1) := by decide +kernel
theorem dX5_targetsFailingBy_2 : decode cX5_targetsFailingBy 2 = .ok (.iconst 0, 1) := by decide +kernel
theorem dX5_targetsFailingBy_3 : decode cX5_targetsFailingBy 3 = .ok (.istore_n 3, 1) := by decide +kernel
theorem dX5_targetsFailingBy_4 : decode cX5_targetsFailingBy 4 = .ok (.iload_n 3, 1) := by decide +kernel
theorem dX5_targetsFailingBy_5 : decode cX5_targetsFailingBy 5 = .ok (.bipush 16, 2) := by decide +kernel
theorem dX5_targetsFailingBy_7 : decode cX5_targetsFailingBy 7 = .ok (.if_icmp .ge 39, 3) := by decide +kernel
theorem dX5_targetsFailingBy_10 : decode cX5_targetsFailingBy 10 = .ok (.aload_n 0, 1) := by decide +kernel
theorem dX5_targetsFailingBy_11 : decode cX5_targetsFailingBy 11 = .ok (.bipush 8, 2) := by decide +kernel
theorem dX5_targetsFailingBy_13 : decode cX5_targetsFailingBy 13 = .ok (.iload_n 3, 1) := by decide +kernel
theorem dX5_targetsFailingBy_14 : decode cX5_targetsFailingBy 14 = .ok (.iadd, 1) := by decide +kernel
theorem dX5_targetsFailingBy_15 : decode cX5_targetsFailingBy 15 = .ok (.invokevirtual 79, 3) := by decide +kernel
theorem dX5_targetsFailingBy_18 : decode cX5_targetsFailingBy 18 = .ok (.astore 4, 2) := by decide +kernel
theorem dX5_targetsFailingBy_20 : decode cX5_targetsFailingBy 20 = .ok (.aload 4, 2) := by decide +kernel
theorem dX5_targetsFailingBy_22 : decode cX5_targetsFailingBy 22 = .ok (.ifnull 18, 3) := by decide +kernel
theorem dX5_targetsFailingBy_25 : decode cX5_targetsFailingBy 25 = .ok (.aload 4, 2) := by decide +kernel
theorem dX5_targetsFailingBy_27 : decode cX5_targetsFailingBy 27 = .ok (.iload_n 1, 1) := by decide +kernel
theorem dX5_targetsFailingBy_28 : decode cX5_targetsFailingBy 28 = .ok (.invokevirtual 82, 3) := by decide +kernel
theorem dX5_targetsFailingBy_31 : decode cX5_targetsFailingBy 31 = .ok (.ifCond .eq 9, 3) := by decide +kernel
theorem dX5_targetsFailingBy_34 : decode cX5_targetsFailingBy 34 = .ok (.iload_n 2, 1) := by decide +kernel
theorem dX5_targetsFailingBy_35 : decode cX5_targetsFailingBy 35 = .ok (.iconst 1, 1) := by decide +kernel
theorem dX5_targetsFailingBy_36 : decode cX5_targetsFailingBy 36 = .ok (.iload_n 3, 1) := by decide +kernel
theorem dX5_targetsFailingBy_37 : decode cX5_targetsFailingBy 37 = .ok (.ishl, 1) := by decide +kernel
theorem dX5_targetsFailingBy_38 : decode cX5_targetsFailingBy 38 = .ok (.ior, 1) := by decide +kernel
theorem dX5_targetsFailingBy_39 : decode cX5_targetsFailingBy 39 = .ok (.istore_n 2, 1) := by decide +kernel
theorem dX5_targetsFailingBy_40 : decode cX5_targetsFailingBy 40 = .ok (.iinc 3 1, 3) := by decide +kernel
theorem dX5_targetsFailingBy_43 : decode cX5_targetsFailingBy 43 = .ok (.goto (-39), 3) := by decide +kernel
theorem dX5_targetsFailingBy_46 : decode cX5_targetsFailingBy 46 = .ok (.iload_n 2, 1) := by decide +kernel
theorem dX5_targetsFailingBy_47 : decode cX5_targetsFailingBy 47 = .ok (.ireturn, 1) := by decide +kernel
theorem dX5_targetsTracing_0 : decode cX5_targetsTracing 0 = .ok (.iconst 0, 1) := by decide +kernel
theorem dX5_targetsTracing_1 : decode cX5_targetsTracing 1 = .ok (.istore_n 2, 1) := by decide +kernel
theorem dX5_targetsTracing_2 : decode cX5_targetsTracing 2 = .ok (.iconst 0, 1) := by decide +kernel
theorem dX5_targetsTracing_3 : decode cX5_targetsTracing 3 = .ok (.istore_n 3, 1) := by decide +kernel
theorem dX5_targetsTracing_4 : decode cX5_targetsTracing 4 = .ok (.iload_n 3, 1) := by decide +kernel
theorem dX5_targetsTracing_5 : decode cX5_targetsTracing 5 = .ok (.bipush 16, 2) := by decide +kernel
theorem dX5_targetsTracing_7 : decode cX5_targetsTracing 7 = .ok (.if_icmp .ge 37, 3) := by decide +kernel
theorem dX5_targetsTracing_10 : decode cX5_targetsTracing 10 = .ok (.aload_n 0, 1) := by decide +kernel
theorem dX5_targetsTracing_11 : decode cX5_targetsTracing 11 = .ok (.getfield 19, 3) := by decide +kernel
theorem dX5_targetsTracing_14 : decode cX5_targetsTracing 14 = .ok (.iload_n 3, 1) := by decide +kernel
theorem dX5_targetsTracing_15 : decode cX5_targetsTracing 15 = .ok (.aaload, 1) := by decide +kernel
theorem dX5_targetsTracing_16 : decode cX5_targetsTracing 16 = .ok (.astore 4, 2) := by decide +kernel
theorem dX5_targetsTracing_18 : decode cX5_targetsTracing 18 = .ok (.aload 4, 2) := by decide +kernel
theorem dX5_targetsTracing_20 : decode cX5_targetsTracing 20 = .ok (.ifnull 18, 3) := by decide +kernel
theorem dX5_targetsTracing_23 : decode cX5_targetsTracing 23 = .ok (.aload 4, 2) := by decide +kernel
theorem dX5_targetsTracing_25 : decode cX5_targetsTracing 25 = .ok (.iload_n 1, 1) := by decide +kernel
theorem dX5_targetsTracing_26 : decode cX5_targetsTracing 26 = .ok (.invokevirtual 85, 3) := by decide +kernel
theorem dX5_targetsTracing_29 : decode cX5_targetsTracing 29 = .ok (.ifCond .eq 9, 3) := by decide +kernel
theorem dX5_targetsTracing_32 : decode cX5_targetsTracing 32 = .ok (.iload_n 2, 1) := by decide +kernel
theorem dX5_targetsTracing_33 : decode cX5_targetsTracing 33 = .ok (.iconst 1, 1) := by decide +kernel
theorem dX5_targetsTracing_34 : decode cX5_targetsTracing 34 = .ok (.iload_n 3, 1) := by decide +kernel
theorem dX5_targetsTracing_35 : decode cX5_targetsTracing 35 = .ok (.ishl, 1) := by decide +kernel
theorem dX5_targetsTracing_36 : decode cX5_targetsTracing 36 = .ok (.ior, 1) := by decide +kernel
theorem dX5_targetsTracing_37 : decode cX5_targetsTracing 37 = .ok (.istore_n 2, 1) := by decide +kernel
theorem dX5_targetsTracing_38 : decode cX5_targetsTracing 38 = .ok (.iinc 3 1, 3) := by decide +kernel
theorem dX5_targetsTracing_41 : decode cX5_targetsTracing 41 = .ok (.goto (-37), 3) := by decide +kernel
theorem dX5_targetsTracing_44 : decode cX5_targetsTracing 44 = .ok (.iload_n 2, 1) := by decide +kernel
theorem dX5_targetsTracing_45 : decode cX5_targetsTracing 45 = .ok (.ireturn, 1) := by decide +kernel
theorem dX5_targetsUpToDate_0 : decode cX5_targetsUpToDate 0 = .ok (.iconst 0, 1) := by decide +kernel
theorem dX5_targetsUpToDate_1 : decode cX5_targetsUpToDate 1 = .ok (.istore_n 1, 1) := by decide +kernel
theorem dX5_targetsUpToDate_2 : decode cX5_targetsUpToDate 2 = .ok (.iconst 0, 1) := by decide +kernel
theorem dX5_targetsUpToDate_3 : decode cX5_targetsUpToDate 3 = .ok (.istore_n 2, 1) := by decide +kernel
theorem dX5_targetsUpToDate_4 : decode cX5_targetsUpToDate 4 = .ok (.iload_n 2, 1) := by decide +kernel
theorem dX5_targetsUpToDate_5 : decode cX5_targetsUpToDate 5 = .ok (.bipush 16, 2) := by decide +kernel
theorem dX5_targetsUpToDate_7 : decode cX5_targetsUpToDate 7 = .ok (.if_icmp .ge 28, 3) := by decide +kernel
theorem dX5_targetsUpToDate_10 : decode cX5_targetsUpToDate 10 = .ok (.aload_n 0, 1) := by decide +kernel
theorem dX5_targetsUpToDate_11 : decode cX5_targetsUpToDate 11 = .ok (.aload_n 0, 1) := by decide +kernel
theorem dX5_targetsUpToDate_12 : decode cX5_targetsUpToDate 12 = .ok (.getfield 19, 3) := by decide +kernel
theorem dX5_targetsUpToDate_15 : decode cX5_targetsUpToDate 15 = .ok (.iload_n 2, 1) := by decide +kernel
theorem dX5_targetsUpToDate_16 : decode cX5_targetsUpToDate 16 = .ok (.aaload, 1) := by decide +kernel
theorem dX5_targetsUpToDate_17 : decode cX5_targetsUpToDate 17 = .ok (.invokevirtual 88, 3) := by decide +kernel
theorem dX5_targetsUpToDate_20 : decode cX5_targetsUpToDate 20 = .ok (.ifCond .eq 9, 3) := by decide +kernel
theorem dX5_targetsUpToDate_23 : decode cX5_targetsUpToDate 23 = .ok (.iload_n 1, 1) := by decide +kernel
theorem dX5_targetsUpToDate_24 : decode cX5_targetsUpToDate 24 = .ok (.iconst 1, 1) := by decide +kernel
theorem dX5_targetsUpToDate_25 : decode cX5_targetsUpToDate 25 = .ok (.iload_n 2, 1) := by decide +kernel
theorem dX5_targetsUpToDate_26 : decode cX5_targetsUpToDate 26 = .ok (.ishl, 1) := by decide +kernel
theorem dX5_targetsUpToDate_27 : decode cX5_targetsUpToDate 27 = .ok (.ior, 1) := by decide +kernel
theorem dX5_targetsUpToDate_28 : decode cX5_targetsUpToDate 28 = .ok (.istore_n 1, 1) := by decide +kernel
theorem dX5_targetsUpToDate_29 : decode cX5_targetsUpToDate 29 = .ok (.iinc 2 1, 3) := by decide +kernel
theorem dX5_targetsUpToDate_32 : decode cX5_targetsUpToDate 32 = .ok (.goto (-28), 3) := by decide +kernel
theorem dX5_targetsUpToDate_35 : decode cX5_targetsUpToDate 35 = .ok (.iload_n 1, 1) := by decide +kernel
theorem dX5_targetsUpToDate_36 : decode cX5_targetsUpToDate 36 = .ok (.ireturn, 1) := by decide +kernel
theorem dX5_isUpToDate_0 : decode cX5_isUpToDate 0 = .ok (.aload_n 1, 1) := by decide +kernel
theorem dX5_isUpToDate_1 : decode cX5_isUpToDate 1 = .ok (.ifnull 10, 3) := by decide +kernel
theorem dX5_isUpToDate_4 : decode cX5_isUpToDate 4 = .ok (.aload_n 1, 1) := by decide +kernel
theorem dX5_isUpToDate_5 : decode cX5_isUpToDate 5 = .ok (.invokevirtual 92, 3) := by decide +kernel
theorem dX5_isUpToDate_8 : decode cX5_isUpToDate 8 = .ok (.ifCond .ne 5, 3) := by decide +kernel
theorem dX5_isUpToDate_11 : decode cX5_isUpToDate 11 = .ok (.iconst 0, 1) := by decide +kernel
theorem dX5_isUpToDate_12 : decode cX5_isUpToDate 12 = .ok (.ireturn, 1) := by decide +kernel
theorem dX5_isUpToDate_13 : decode cX5_isUpToDate 13 = .ok (.iconst 0, 1) := by decide +kernel
theorem dX5_isUpToDate_14 : decode cX5_isUpToDate 14 = .ok (.istore_n 2, 1) := by decide +kernel
theorem dX5_isUpToDate_15 : decode cX5_isUpToDate 15 = .ok (.iload_n 2, 1) := by decide +kernel
theorem dX5_isUpToDate_16 : decode cX5_isUpToDate 16 = .ok (.aload_n 1, 1) := by decide +kernel
theorem dX5_isUpToDate_17 : decode cX5_isUpToDate 17 = .ok (.getfield 95, 3) := by decide +kernel
theorem dX5_isUpToDate_20 : decode cX5_isUpToDate 20 = .ok (.if_icmp .ge 31, 3) := by decide +kernel
theorem dX5_isUpToDate_23 : decode cX5_isUpToDate 23 = .ok (.aload_n 0, 1) := by decide +kernel
theorem dX5_isUpToDate_24 : decode cX5_isUpToDate 24 = .ok (.aload_n 1, 1) := by decide +kernel
theorem dX5_isUpToDate_25 : decode cX5_isUpToDate 25 = .ok (.iload_n 2, 1) := by decide +kernel
theorem dX5_isUpToDate_26 : decode cX5_isUpToDate 26 = .ok (.invokevirtual 98, 3) := by decide +kernel
theorem dX5_isUpToDate_29 : decode cX5_isUpToDate 29 = .ok (.invokevirtual 67, 3) := by decide +kernel
theorem dX5_isUpToDate_32 : decode cX5_isUpToDate 32 = .ok (.aload_n 1, 1) := by decide +kernel
theorem dX5_isUpToDate_33 : decode cX5_isUpToDate 33 = .ok (.iload_n 2, 1) := by decide +kernel
theorem dX5_isUpToDate_34 : decode cX5_isUpToDate 34 = .ok (.invokevirtual 102, 3) := by decide +kernel
theorem dX5_isUpToDate_37 : decode cX5_isUpToDate 37 = .ok (.invokestatic 105, 3) := by decide +kernel
theorem dX5_isUpToDate_40 : decode cX5_isUpToDate 40 = .ok (.ifCond .ne 5, 3) := by decide +kernel
theorem dX5_isUpToDate_43 : decode cX5_isUpToDate 43 = .ok (.iconst 0, 1) := by decide +kernel
theorem dX5_isUpToDate_44 : decode cX5_isUpToDate 44 = .ok (.ireturn, 1) := by decide +kernel
theorem dX5_isUpToDate_45 : decode cX5_isUpToDate 45 = .ok (.iinc 2 1, 3) := by decide +kernel
theorem dX5_isUpToDate_48 : decode cX5_isUpToDate 48 = .ok (.goto (-33), 3) := by decide +kernel
theorem dX5_isUpToDate_51 : decode cX5_isUpToDate 51 = .ok (.iconst 1, 1) := by decide +kernel
theorem dX5_isUpToDate_52 : decode cX5_isUpToDate 52 = .ok (.ireturn, 1) := by decide +kernel
theorem dX5_depthOf_0 : decode cX5_depthOf 0 = .ok (.aload_n 0, 1) := by decide +kernel
theorem dX5_depthOf_1 : decode cX5_depthOf 1 = .ok (.getfield 26, 3) := by decide +kernel
theorem dX5_depthOf_4 : decode cX5_depthOf 4 = .ok (.iconst 0, 1) := by decide +kernel
theorem dX5_depthOf_5 : decode cX5_depthOf 5 = .ok (.invokestatic 109, 3) := by decide +kernel
theorem dX5_depthOf_8 : decode cX5_depthOf 8 = .ok (.iconst 1, 1) := by decide +kernel
theorem dX5_depthOf_9 : decode cX5_depthOf 9 = .ok (.istore_n 2, 1) := by decide +kernel
theorem dX5_depthOf_10 : decode cX5_depthOf 10 = .ok (.iconst 0, 1) := by decide +kernel
theorem dX5_depthOf_11 : decode cX5_depthOf 11 = .ok (.istore_n 3, 1) := by decide +kernel
theorem dX5_depthOf_12 : decode cX5_depthOf 12 = .ok (.iload_n 2, 1) := by decide +kernel
theorem dX5_depthOf_13 : decode cX5_depthOf 13 = .ok (.ifCond .eq 20, 3) := by decide +kernel
theorem dX5_depthOf_16 : decode cX5_depthOf 16 = .ok (.iload_n 3, 1) := by decide +kernel
theorem dX5_depthOf_17 : decode cX5_depthOf 17 = .ok (.bipush 16, 2) := by decide +kernel
theorem dX5_depthOf_19 : decode cX5_depthOf 19 = .ok (.if_icmp .ge 14, 3) := by decide +kernel
theorem dX5_depthOf_22 : decode cX5_depthOf 22 = .ok (.aload_n 0, 1) := by decide +kernel
theorem dX5_depthOf_23 : decode cX5_depthOf 23 = .ok (.invokevirtual 115, 3) := by decide +kernel
theorem dX5_depthOf_26 : decode cX5_depthOf 26 = .ok (.istore_n 2, 1) := by decide +kernel
theorem dX5_depthOf_27 : decode cX5_depthOf 27 = .ok (.iinc 3 1, 3) := by decide +kernel
theorem dX5_depthOf_30 : decode cX5_depthOf 30 = .ok (.goto (-18), 3) := by decide +kernel
theorem dX5_depthOf_33 : decode cX5_depthOf 33 = .ok (.iload_n 1, 1) := by decide +kernel
theorem dX5_depthOf_34 : decode cX5_depthOf 34 = .ok (.invokestatic 53, 3) := by decide +kernel
theorem dX5_depthOf_37 : decode cX5_depthOf 37 = .ok (.ifCond .eq 12, 3) := by decide +kernel
theorem dX5_depthOf_40 : decode cX5_depthOf 40 = .ok (.aload_n 0, 1) := by decide +kernel
theorem dX5_depthOf_41 : decode cX5_depthOf 41 = .ok (.getfield 26, 3) := by decide +kernel
theorem dX5_depthOf_44 : decode cX5_depthOf 44 = .ok (.iload_n 1, 1) := by decide +kernel
theorem dX5_depthOf_45 : decode cX5_depthOf 45 = .ok (.iaload, 1) := by decide +kernel
theorem dX5_depthOf_46 : decode cX5_depthOf 46 = .ok (.goto 4, 3) := by decide +kernel
theorem dX5_depthOf_49 : decode cX5_depthOf 49 = .ok (.iconst 0, 1) := by decide +kernel
theorem dX5_depthOf_50 : decode cX5_depthOf 50 = .ok (.ireturn, 1) := by decide +kernel
theorem dX5_deepenAll_0 : decode cX5_deepenAll 0 = .ok (.iconst 0, 1) := by decide +kernel
theorem dX5_deepenAll_1 : decode cX5_deepenAll 1 = .ok (.istore_n 1, 1) := by decide +kernel
theorem dX5_deepenAll_2 : decode cX5_deepenAll 2 = .ok (.iconst 0, 1) := by decide +kernel
theorem dX5_deepenAll_3 : decode cX5_deepenAll 3 = .ok (.istore_n 2, 1) := by decide +kernel
theorem dX5_deepenAll_4 : decode cX5_deepenAll 4 = .ok (.iload_n 2, 1) := by decide +kernel
theorem dX5_deepenAll_5 : decode cX5_deepenAll 5 = .ok (.bipush 16, 2) := by decide +kernel
theorem dX5_deepenAll_7 : decode cX5_deepenAll 7 = .ok (.if_icmp .ge 45, 3) := by decide +kernel
theorem dX5_deepenAll_10 : decode cX5_deepenAll 10 = .ok (.aload_n 0, 1) := by decide +kernel
theorem dX5_deepenAll_11 : decode cX5_deepenAll 11 = .ok (.aload_n 0, 1) := by decide +kernel
theorem dX5_deepenAll_12 : decode cX5_deepenAll 12 = .ok (.getfield 19, 3) := by decide +kernel
theorem dX5_deepenAll_15 : decode cX5_deepenAll 15 = .ok (.iload_n 2, 1) := by decide +kernel
theorem dX5_deepenAll_16 : decode cX5_deepenAll 16 = .ok (.aaload, 1) := by decide +kernel
theorem dX5_deepenAll_17 : decode cX5_deepenAll 17 = .ok (.invokevirtual 118, 3) := by decide +kernel
theorem dX5_deepenAll_20 : decode cX5_deepenAll 20 = .ok (.istore_n 3, 1) := by decide +kernel
theorem dX5_deepenAll_21 : decode cX5_deepenAll 21 = .ok (.iload_n 3, 1) := by decide +kernel
theorem dX5_deepenAll_22 : decode cX5_deepenAll 22 = .ok (.aload_n 0, 1) := by decide +kernel
theorem dX5_deepenAll_23 : decode cX5_deepenAll 23 = .ok (.getfield 26, 3) := by decide +kernel
theorem dX5_deepenAll_26 : decode cX5_deepenAll 26 = .ok (.bipush 8, 2) := by decide +kernel
theorem dX5_deepenAll_28 : decode cX5_deepenAll 28 = .ok (.iload_n 2, 1) := by decide +kernel
theorem dX5_deepenAll_29 : decode cX5_deepenAll 29 = .ok (.iadd, 1) := by decide +kernel
theorem dX5_deepenAll_30 : decode cX5_deepenAll 30 = .ok (.iaload, 1) := by decide +kernel
theorem dX5_deepenAll_31 : decode cX5_deepenAll 31 = .ok (.if_icmp .le 15, 3) := by decide +kernel
theorem dX5_deepenAll_34 : decode cX5_deepenAll 34 = .ok (.aload_n 0, 1) := by decide +kernel
theorem dX5_deepenAll_35 : decode cX5_deepenAll 35 = .ok (.getfield 26, 3) := by decide +kernel
theorem dX5_deepenAll_38 : decode cX5_deepenAll 38 = .ok (.bipush 8, 2) := by decide +kernel
theorem dX5_deepenAll_40 : decode cX5_deepenAll 40 = .ok (.iload_n 2, 1) := by decide +kernel
theorem dX5_deepenAll_41 : decode cX5_deepenAll 41 = .ok (.iadd, 1) := by decide +kernel
theorem dX5_deepenAll_42 : decode cX5_deepenAll 42 = .ok (.iload_n 3, 1) := by decide +kernel
theorem dX5_deepenAll_43 : decode cX5_deepenAll 43 = .ok (.iastore, 1) := by decide +kernel
theorem dX5_deepenAll_44 : decode cX5_deepenAll 44 = .ok (.iconst 1, 1) := by decide +kernel
theorem dX5_deepenAll_45 : decode cX5_deepenAll 45 = .ok (.istore_n 1, 1) := by decide +kernel
theorem dX5_deepenAll_46 : decode cX5_deepenAll 46 = .ok (.iinc 2 1, 3) := by decide +kernel
theorem dX5_deepenAll_49 : decode cX5_deepenAll 49 = .ok (.goto (-45), 3) := by decide +kernel
theorem dX5_deepenAll_52 : decode cX5_deepenAll 52 = .ok (.iload_n 1, 1) := by decide +kernel
theorem dX5_deepenAll_53 : decode cX5_deepenAll 53 = .ok (.ireturn, 1) := by decide +kernel
theorem dX5_depthByTrace_0 : decode cX5_depthByTrace 0 = .ok (.aload_n 1, 1) := by decide +kernel
theorem dX5_depthByTrace_1 : decode cX5_depthByTrace 1 = .ok (.ifnull 11, 3) := by decide +kernel
theorem dX5_depthByTrace_4 : decode cX5_depthByTrace 4 = .ok (.aload_n 1, 1) := by decide +kernel
theorem dX5_depthByTrace_5 : decode cX5_depthByTrace 5 = .ok (.getfield 95, 3) := by decide +kernel
theorem dX5_depthByTrace_8 : decode cX5_depthByTrace 8 = .ok (.iconst 1, 1) := by decide +kernel
theorem dX5_depthByTrace_9 : decode cX5_depthByTrace 9 = .ok (.if_icmp .ge 5, 3) := by decide +kernel
theorem dX5_depthByTrace_12 : decode cX5_depthByTrace 12 = .ok (.iconst 0, 1) := by decide +kernel
theorem dX5_depthByTrace_13 : decode cX5_depthByTrace 13 = .ok (.ireturn, 1) := by decide +kernel
theorem dX5_depthByTrace_14 : decode cX5_depthByTrace 14 = .ok (.iconst 0, 1) := by decide +kernel
theorem dX5_depthByTrace_15 : decode cX5_depthByTrace 15 = .ok (.istore_n 2, 1) := by decide +kernel
theorem dX5_depthByTrace_16 : decode cX5_depthByTrace 16 = .ok (.iconst 0, 1) := by decide +kernel
theorem dX5_depthByTrace_17 : decode cX5_depthByTrace 17 = .ok (.istore_n 3, 1) := by decide +kernel
theorem dX5_depthByTrace_18 : decode cX5_depthByTrace 18 = .ok (.iload_n 3, 1) := by decide +kernel
theorem dX5_depthByTrace_19 : decode cX5_depthByTrace 19 = .ok (.aload_n 1, 1) := by decide +kernel
theorem dX5_depthByTrace_20 : decode cX5_depthByTrace 20 = .ok (.getfield 95, 3) := by decide +kernel
theorem dX5_depthByTrace_23 : decode cX5_depthByTrace 23 = .ok (.if_icmp .ge 36, 3) := by decide +kernel
theorem dX5_depthByTrace_26 : decode cX5_depthByTrace 26 = .ok (.aload_n 1, 1) := by decide +kernel
theorem dX5_depthByTrace_27 : decode cX5_depthByTrace 27 = .ok (.iload_n 3, 1) := by decide +kernel
theorem dX5_depthByTrace_28 : decode cX5_depthByTrace 28 = .ok (.invokevirtual 98, 3) := by decide +kernel
theorem dX5_depthByTrace_31 : decode cX5_depthByTrace 31 = .ok (.istore 4, 2) := by decide +kernel
theorem dX5_depthByTrace_33 : decode cX5_depthByTrace 33 = .ok (.iload 4, 2) := by decide +kernel
theorem dX5_depthByTrace_35 : decode cX5_depthByTrace 35 = .ok (.invokestatic 53, 3) := by decide +kernel
theorem dX5_depthByTrace_38 : decode cX5_depthByTrace 38 = .ok (.ifCond .eq 15, 3) := by decide +kernel
theorem dX5_depthByTrace_41 : decode cX5_depthByTrace 41 = .ok (.iload_n 2, 1) := by decide +kernel
theorem dX5_depthByTrace_42 : decode cX5_depthByTrace 42 = .ok (.aload_n 0, 1) := by decide +kernel
theorem dX5_depthByTrace_43 : decode cX5_depthByTrace 43 = .ok (.getfield 26, 3) := by decide +kernel
theorem dX5_depthByTrace_46 : decode cX5_depthByTrace 46 = .ok (.iload 4, 2) := by decide +kernel
theorem dX5_depthByTrace_48 : decode cX5_depthByTrace 48 = .ok (.iaload, 1) := by decide +kernel
theorem dX5_depthByTrace_49 : decode cX5_depthByTrace 49 = .ok (.invokestatic 122, 3) := by decide +kernel
theorem dX5_depthByTrace_52 : decode cX5_depthByTrace 52 = .ok (.istore_n 2, 1) := by decide +kernel
theorem dX5_depthByTrace_53 : decode cX5_depthByTrace 53 = .ok (.iinc 3 1, 3) := by decide +kernel
theorem dX5_depthByTrace_56 : decode cX5_depthByTrace 56 = .ok (.goto (-38), 3) := by decide +kernel
theorem dX5_depthByTrace_59 : decode cX5_depthByTrace 59 = .ok (.iload_n 2, 1) := by decide +kernel
theorem dX5_depthByTrace_60 : decode cX5_depthByTrace 60 = .ok (.iconst 1, 1) := by decide +kernel
theorem dX5_depthByTrace_61 : decode cX5_depthByTrace 61 = .ok (.iadd, 1) := by decide +kernel
theorem dX5_depthByTrace_62 : decode cX5_depthByTrace 62 = .ok (.ireturn, 1) := by decide +kernel
theorem dX5_unlikeResults_0 : decode cX5_unlikeResults 0 = .ok (.iconst 0, 1) := by decide +kernel
theorem dX5_unlikeResults_1 : decode cX5_unlikeResults 1 = .ok (.istore_n 1, 1) := by decide +kernel
theorem dX5_unlikeResults_2 : decode cX5_unlikeResults 2 = .ok (.bipush 8, 2) := by decide +kernel
theorem dX5_unlikeResults_4 : decode cX5_unlikeResults 4 = .ok (.istore_n 2, 1) := by decide +kernel
theorem dX5_unlikeResults_5 : decode cX5_unlikeResults 5 = .ok (.iload_n 2, 1) := by decide +kernel
theorem dX5_unlikeResults_6 : decode cX5_unlikeResults 6 = .ok (.bipush 24, 2) := by decide +kernel
theorem dX5_unlikeResults_8 : decode cX5_unlikeResults 8 = .ok (.if_icmp .ge 28, 3) := by decide +kernel
theorem dX5_unlikeResults_11 : decode cX5_unlikeResults 11 = .ok (.aload_n 0, 1) := by decide +kernel
theorem dX5_unlikeResults_12 : decode cX5_unlikeResults 12 = .ok (.iload_n 2, 1) := by decide +kernel
theorem dX5_unlikeResults_13 : decode cX5_unlikeResults 13 = .ok (.invokevirtual 67, 3) := by decide +kernel
theorem dX5_unlikeResults_16 : decode cX5_unlikeResults 16 = .ok (.ifnull 14, 3) := by decide +kernel
theorem dX5_unlikeResults_19 : decode cX5_unlikeResults 19 = .ok (.aload_n 0, 1) := by decide +kernel
theorem dX5_unlikeResults_20 : decode cX5_unlikeResults 20 = .ok (.iload_n 2, 1) := by decide +kernel
theorem dX5_unlikeResults_21 : decode cX5_unlikeResults 21 = .ok (.invokevirtual 128, 3) := by decide +kernel
theorem dX5_unlikeResults_24 : decode cX5_unlikeResults 24 = .ok (.ifCond .ne 6, 3) := by decide +kernel
theorem dX5_unlikeResults_27 : decode cX5_unlikeResults 27 = .ok (.iinc 1 1, 3) := by decide +kernel
theorem dX5_unlikeResults_30 : decode cX5_unlikeResults 30 = .ok (.iinc 2 1, 3) := by decide +kernel
theorem dX5_unlikeResults_33 : decode cX5_unlikeResults 33 = .ok (.goto (-28), 3) := by decide +kernel
theorem dX5_unlikeResults_36 : decode cX5_unlikeResults 36 = .ok (.iload_n 1, 1) := by decide +kernel
theorem dX5_unlikeResults_37 : decode cX5_unlikeResults 37 = .ok (.ireturn, 1) := by decide +kernel
theorem dX5_hasSameBelow_0 : decode cX5_hasSameBelow 0 = .ok (.bipush 8, 2) := by decide +kernel
theorem dX5_hasSameBelow_2 : decode cX5_hasSameBelow 2 = .ok (.istore_n 2, 1) := by decide +kernel
theorem dX5_hasSameBelow_3 : decode cX5_hasSameBelow 3 = .ok (.iload_n 2, 1) := by decide +kernel
theorem dX5_hasSameBelow_4 : decode cX5_hasSameBelow 4 = .ok (.iload_n 1, 1) := by decide +kernel
theorem dX5_hasSameBelow_5 : decode cX5_hasSameBelow 5 = .ok (.if_icmp .ge 27, 3) := by decide +kernel
theorem dX5_hasSameBelow_8 : decode cX5_hasSameBelow 8 = .ok (.aload_n 0, 1) := by decide +kernel
theorem dX5_hasSameBelow_9 : decode cX5_hasSameBelow 9 = .ok (.iload_n 2, 1) := by decide +kernel
theorem dX5_hasSameBelow_10 : decode cX5_hasSameBelow 10 = .ok (.invokevirtual 67, 3) := by decide +kernel
theorem dX5_hasSameBelow_13 : decode cX5_hasSameBelow 13 = .ok (.aload_n 0, 1) := by decide +kernel
theorem dX5_hasSameBelow_14 : decode cX5_hasSameBelow 14 = .ok (.iload_n 1, 1) := by decide +kernel
theorem dX5_hasSameBelow_15 : decode cX5_hasSameBelow 15 = .ok (.invokevirtual 67, 3) := by decide +kernel
theorem dX5_hasSameBelow_18 : decode cX5_hasSameBelow 18 = .ok (.invokestatic 105, 3) := by decide +kernel
theorem dX5_hasSameBelow_21 : decode cX5_hasSameBelow 21 = .ok (.ifCond .eq 5, 3) := by decide +kernel
theorem dX5_hasSameBelow_24 : decode cX5_hasSameBelow 24 = .ok (.iconst 1, 1) := by decide +kernel
theorem dX5_hasSameBelow_25 : decode cX5_hasSameBelow 25 = .ok (.ireturn, 1) := by decide +kernel
theorem dX5_hasSameBelow_26 : decode cX5_hasSameBelow 26 = .ok (.iinc 2 1, 3) := by decide +kernel
theorem dX5_hasSameBelow_29 : decode cX5_hasSameBelow 29 = .ok (.goto (-26), 3) := by decide +kernel
theorem dX5_hasSameBelow_32 : decode cX5_hasSameBelow 32 = .ok (.iconst 0, 1) := by decide +kernel
theorem dX5_hasSameBelow_33 : decode cX5_hasSameBelow 33 = .ok (.ireturn, 1) := by decide +kernel
theorem dX5_ruleCount_0 : decode cX5_ruleCount 0 = .ok (.iconst 0, 1) := by decide +kernel
theorem dX5_ruleCount_1 : decode cX5_ruleCount 1 = .ok (.istore_n 1, 1) := by decide +kernel
theorem dX5_ruleCount_2 : decode cX5_ruleCount 2 = .ok (.iconst 0, 1) := by decide +kernel
theorem dX5_ruleCount_3 : decode cX5_ruleCount 3 = .ok (.istore_n 2, 1) := by decide +kernel
theorem dX5_ruleCount_4 : decode cX5_ruleCount 4 = .ok (.iload_n 2, 1) := by decide +kernel
theorem dX5_ruleCount_5 : decode cX5_ruleCount 5 = .ok (.bipush 16, 2) := by decide +kernel
theorem dX5_ruleCount_7 : decode cX5_ruleCount 7 = .ok (.if_icmp .ge 30, 3) := by decide +kernel
theorem dX5_ruleCount_10 : decode cX5_ruleCount 10 = .ok (.aload_n 0, 1) := by decide +kernel
theorem dX5_ruleCount_11 : decode cX5_ruleCount 11 = .ok (.getfield 19, 3) := by decide +kernel
theorem dX5_ruleCount_14 : decode cX5_ruleCount 14 = .ok (.iload_n 2, 1) := by decide +kernel
theorem dX5_ruleCount_15 : decode cX5_ruleCount 15 = .ok (.aaload, 1) := by decide +kernel
theorem dX5_ruleCount_16 : decode cX5_ruleCount 16 = .ok (.astore_n 3, 1) := by decide +kernel
theorem dX5_ruleCount_17 : decode cX5_ruleCount 17 = .ok (.aload_n 3, 1) := by decide +kernel
theorem dX5_ruleCount_18 : decode cX5_ruleCount 18 = .ok (.ifnull 13, 3) := by decide +kernel
theorem dX5_ruleCount_21 : decode cX5_ruleCount 21 = .ok (.aload_n 3, 1) := by decide +kernel
theorem dX5_ruleCount_22 : decode cX5_ruleCount 22 = .ok (.getfield 131, 3) := by decide +kernel
theorem dX5_ruleCount_25 : decode cX5_ruleCount 25 = .ok (.ifCond .le 6, 3) := by decide +kernel
theorem dX5_ruleCount_28 : decode cX5_ruleCount 28 = .ok (.iinc 1 1, 3) := by decide +kernel
theorem dX5_ruleCount_31 : decode cX5_ruleCount 31 = .ok (.iinc 2 1, 3) := by decide +kernel
theorem dX5_ruleCount_34 : decode cX5_ruleCount 34 = .ok (.goto (-30), 3) := by decide +kernel
theorem dX5_ruleCount_37 : decode cX5_ruleCount 37 = .ok (.iload_n 1, 1) := by decide +kernel
theorem dX5_ruleCount_38 : decode cX5_ruleCount 38 = .ok (.ireturn, 1) := by decide +kernel
theorem dX5_traceCount_0 : decode cX5_traceCount 0 = .ok (.iconst 0, 1) := by decide +kernel
theorem dX5_traceCount_1 : decode cX5_traceCount 1 = .ok (.istore_n 1, 1) := by decide +kernel
theorem dX5_traceCount_2 : decode cX5_traceCount 2 = .ok (.iconst 0, 1) := by decide +kernel
theorem dX5_traceCount_3 : decode cX5_traceCount 3 = .ok (.istore_n 2, 1) := by decide +kernel
theorem dX5_traceCount_4 : decode cX5_traceCount 4 = .ok (.iload_n 2, 1) := by decide +kernel
theorem dX5_traceCount_5 : decode cX5_traceCount 5 = .ok (.bipush 16, 2) := by decide +kernel
theorem dX5_traceCount_7 : decode cX5_traceCount 7 = .ok (.if_icmp .ge 30, 3) := by decide +kernel
theorem dX5_traceCount_10 : decode cX5_traceCount 10 = .ok (.aload_n 0, 1) := by decide +kernel
theorem dX5_traceCount_11 : decode cX5_traceCount 11 = .ok (.getfield 19, 3) := by decide +kernel
theorem dX5_traceCount_14 : decode cX5_traceCount 14 = .ok (.iload_n 2, 1) := by decide +kernel
theorem dX5_traceCount_15 : decode cX5_traceCount 15 = .ok (.aaload, 1) := by decide +kernel
theorem dX5_traceCount_16 : decode cX5_traceCount 16 = .ok (.astore_n 3, 1) := by decide +kernel
theorem dX5_traceCount_17 : decode cX5_traceCount 17 = .ok (.aload_n 3, 1) := by decide +kernel
theorem dX5_traceCount_18 : decode cX5_traceCount 18 = .ok (.ifnull 13, 3) := by decide +kernel
theorem dX5_traceCount_21 : decode cX5_traceCount 21 = .ok (.aload_n 3, 1) := by decide +kernel
theorem dX5_traceCount_22 : decode cX5_traceCount 22 = .ok (.invokevirtual 92, 3) := by decide +kernel
theorem dX5_traceCount_25 : decode cX5_traceCount 25 = .ok (.ifCond .eq 6, 3) := by decide +kernel
theorem dX5_traceCount_28 : decode cX5_traceCount 28 = .ok (.iinc 1 1, 3) := by decide +kernel
theorem dX5_traceCount_31 : decode cX5_traceCount 31 = .ok (.iinc 2 1, 3) := by decide +kernel
theorem dX5_traceCount_34 : decode cX5_traceCount 34 = .ok (.goto (-30), 3) := by decide +kernel
theorem dX5_traceCount_37 : decode cX5_traceCount 37 = .ok (.iload_n 1, 1) := by decide +kernel
theorem dX5_traceCount_38 : decode cX5_traceCount 38 = .ok (.ireturn, 1) := by decide +kernel
theorem dX5_resultCount_0 : decode cX5_resultCount 0 = .ok (.iconst 0, 1) := by decide +kernel
theorem dX5_resultCount_1 : decode cX5_resultCount 1 = .ok (.istore_n 1, 1) := by decide +kernel
theorem dX5_resultCount_2 : decode cX5_resultCount 2 = .ok (.bipush 8, 2) := by decide +kernel
theorem dX5_resultCount_4 : decode cX5_resultCount 4 = .ok (.istore_n 2, 1) := by decide +kernel
theorem dX5_resultCount_5 : decode cX5_resultCount 5 = .ok (.iload_n 2, 1) := by decide +kernel
theorem dX5_resultCount_6 : decode cX5_resultCount 6 = .ok (.bipush 24, 2) := by decide +kernel
theorem dX5_resultCount_8 : decode cX5_resultCount 8 = .ok (.if_icmp .ge 20, 3) := by decide +kernel
theorem dX5_resultCount_11 : decode cX5_resultCount 11 = .ok (.aload_n 0, 1) := by decide +kernel
theorem dX5_resultCount_12 : decode cX5_resultCount 12 = .ok (.iload_n 2, 1) := by decide +kernel
theorem dX5_resultCount_13 : decode cX5_resultCount 13 = .ok (.invokevirtual 67, 3) := by decide +kernel
theorem dX5_resultCount_16 : decode cX5_resultCount 16 = .ok (.ifnull 6, 3) := by decide +kernel
theorem dX5_resultCount_19 : decode cX5_resultCount 19 = .ok (.iinc 1 1, 3) := by decide +kernel
theorem dX5_resultCount_22 : decode cX5_resultCount 22 = .ok (.iinc 2 1, 3) := by decide +kernel
theorem dX5_resultCount_25 : decode cX5_resultCount 25 = .ok (.goto (-20), 3) := by decide +kernel
theorem dX5_resultCount_28 : decode cX5_resultCount 28 = .ok (.iload_n 1, 1) := by decide +kernel
theorem dX5_resultCount_29 : decode cX5_resultCount 29 = .ok (.ireturn, 1) := by decide +kernel
theorem dX5_failureCount_0 : decode cX5_failureCount 0 = .ok (.iconst 0, 1) := by decide +kernel
theorem dX5_failureCount_1 : decode cX5_failureCount 1 = .ok (.istore_n 1, 1) := by decide +kernel
theorem dX5_failureCount_2 : decode cX5_failureCount 2 = .ok (.bipush 8, 2) := by decide +kernel
theorem dX5_failureCount_4 : decode cX5_failureCount 4 = .ok (.istore_n 2, 1) := by decide +kernel
theorem dX5_failureCount_5 : decode cX5_failureCount 5 = .ok (.iload_n 2, 1) := by decide +kernel
theorem dX5_failureCount_6 : decode cX5_failureCount 6 = .ok (.bipush 24, 2) := by decide +kernel
theorem dX5_failureCount_8 : decode cX5_failureCount 8 = .ok (.if_icmp .ge 20, 3) := by decide +kernel
theorem dX5_failureCount_11 : decode cX5_failureCount 11 = .ok (.aload_n 0, 1) := by decide +kernel
theorem dX5_failureCount_12 : decode cX5_failureCount 12 = .ok (.iload_n 2, 1) := by decide +kernel
theorem dX5_failureCount_13 : decode cX5_failureCount 13 = .ok (.invokevirtual 79, 3) := by decide +kernel
theorem dX5_failureCount_16 : decode cX5_failureCount 16 = .ok (.ifnull 6, 3) := by decide +kernel
theorem dX5_failureCount_19 : decode cX5_failureCount 19 = .ok (.iinc 1 1, 3) := by decide +kernel
theorem dX5_failureCount_22 : decode cX5_failureCount 22 = .ok (.iinc 2 1, 3) := by decide +kernel
theorem dX5_failureCount_25 : decode cX5_failureCount 25 = .ok (.goto (-20), 3) := by decide +kernel
theorem dX5_failureCount_28 : decode cX5_failureCount 28 = .ok (.iload_n 1, 1) := by decide +kernel
theorem dX5_failureCount_29 : decode cX5_failureCount 29 = .ok (.ireturn, 1) := by decide +kernel
theorem dX5_copyFrom_0 : decode cX5_copyFrom 0 = .ok (.iconst 0, 1) := by decide +kernel
theorem dX5_copyFrom_1 : decode cX5_copyFrom 1 = .ok (.istore_n 2, 1) := by decide +kernel
theorem dX5_copyFrom_2 : decode cX5_copyFrom 2 = .ok (.iload_n 2, 1) := by decide +kernel
theorem dX5_copyFrom_3 : decode cX5_copyFrom 3 = .ok (.bipush 8, 2) := by decide +kernel
theorem dX5_copyFrom_5 : decode cX5_copyFrom 5 = .ok (.if_icmp .ge 21, 3) := by decide +kernel
theorem dX5_copyFrom_8 : decode cX5_copyFrom 8 = .ok (.aload_n 0, 1) := by decide +kernel
theorem dX5_copyFrom_9 : decode cX5_copyFrom 9 = .ok (.getfield 11, 3) := by decide +kernel
theorem dX5_copyFrom_12 : decode cX5_copyFrom 12 = .ok (.iload_n 2, 1) := by decide +kernel
theorem dX5_copyFrom_13 : decode cX5_copyFrom 13 = .ok (.aload_n 1, 1) := by decide +kernel
theorem dX5_copyFrom_14 : decode cX5_copyFrom 14 = .ok (.getfield 11, 3) := by decide +kernel
theorem dX5_copyFrom_17 : decode cX5_copyFrom 17 = .ok (.iload_n 2, 1) := by decide +kernel
theorem dX5_copyFrom_18 : decode cX5_copyFrom 18 = .ok (.aaload, 1) := by decide +kernel
theorem dX5_copyFrom_19 : decode cX5_copyFrom 19 = .ok (.aastore, 1) := by decide +kernel
theorem dX5_copyFrom_20 : decode cX5_copyFrom 20 = .ok (.iinc 2 1, 3) := by decide +kernel
theorem dX5_copyFrom_23 : decode cX5_copyFrom 23 = .ok (.goto (-21), 3) := by decide +kernel
theorem dX5_copyFrom_26 : decode cX5_copyFrom 26 = .ok (.iconst 0, 1) := by decide +kernel
theorem dX5_copyFrom_27 : decode cX5_copyFrom 27 = .ok (.istore_n 2, 1) := by decide +kernel
theorem dX5_copyFrom_28 : decode cX5_copyFrom 28 = .ok (.iload_n 2, 1) := by decide +kernel
theorem dX5_copyFrom_29 : decode cX5_copyFrom 29 = .ok (.bipush 16, 2) := by decide +kernel
theorem dX5_copyFrom_31 : decode cX5_copyFrom 31 = .ok (.if_icmp .ge 39, 3) := by decide +kernel
theorem dX5_copyFrom_34 : decode cX5_copyFrom 34 = .ok (.aload_n 0, 1) := by decide +kernel
theorem dX5_copyFrom_35 : decode cX5_copyFrom 35 = .ok (.getfield 19, 3) := by decide +kernel
theorem dX5_copyFrom_38 : decode cX5_copyFrom 38 = .ok (.iload_n 2, 1) := by decide +kernel
theorem dX5_copyFrom_39 : decode cX5_copyFrom 39 = .ok (.aaload, 1) := by decide +kernel
theorem dX5_copyFrom_40 : decode cX5_copyFrom 40 = .ok (.astore_n 3, 1) := by decide +kernel
theorem dX5_copyFrom_41 : decode cX5_copyFrom 41 = .ok (.aload_n 1, 1) := by decide +kernel
theorem dX5_copyFrom_42 : decode cX5_copyFrom 42 = .ok (.getfield 19, 3) := by decide +kernel
theorem dX5_copyFrom_45 : decode cX5_copyFrom 45 = .ok (.iload_n 2, 1) := by decide +kernel
theorem dX5_copyFrom_46 : decode cX5_copyFrom 46 = .ok (.aaload, 1) := by decide +kernel
theorem dX5_copyFrom_47 : decode cX5_copyFrom 47 = .ok (.astore 4, 2) := by decide +kernel
theorem dX5_copyFrom_49 : decode cX5_copyFrom 49 = .ok (.aload_n 3, 1) := by decide +kernel
theorem dX5_copyFrom_50 : decode cX5_copyFrom 50 = .ok (.ifnull 14, 3) := by decide +kernel
theorem dX5_copyFrom_53 : decode cX5_copyFrom 53 = .ok (.aload 4, 2) := by decide +kernel
theorem dX5_copyFrom_55 : decode cX5_copyFrom 55 = .ok (.ifnull 9, 3) := by decide +kernel
theorem dX5_copyFrom_58 : decode cX5_copyFrom 58 = .ok (.aload_n 3, 1) := by decide +kernel
theorem dX5_copyFrom_59 : decode cX5_copyFrom 59 = .ok (.aload 4, 2) := by decide +kernel
theorem dX5_copyFrom_61 : decode cX5_copyFrom 61 = .ok (.invokevirtual 134, 3) := by decide +kernel
theorem dX5_copyFrom_64 : decode cX5_copyFrom 64 = .ok (.iinc 2 1, 3) := by decide +kernel
theorem dX5_copyFrom_67 : decode cX5_copyFrom 67 = .ok (.goto (-39), 3) := by decide +kernel
theorem dX5_copyFrom_70 : decode cX5_copyFrom 70 = .ok (.return_, 1) := by decide +kernel
end
section
theorem dX6_init_0 : decode cX6_init 0 = .ok (.aload_n 0, 1) := by decide +kernel
theorem dX6_init_1 : decode cX6_init 1 = .ok (.invokespecial 5, 3) := by decide +kernel
theorem dX6_init_4 : decode cX6_init 4 = .ok (.aload_n 0, 1) := by decide +kernel
theorem dX6_init_5 : decode cX6_init 5 = .ok (.new 11, 3) := by decide +kernel
theorem dX6_init_8 : decode cX6_init 8 = .ok (.dup, 1) := by decide +kernel
theorem dX6_init_9 : decode cX6_init 9 = .ok (.invokespecial 13, 3) := by decide +kernel
theorem dX6_init_12 : decode cX6_init 12 = .ok (.putfield 14, 3) := by decide +kernel
theorem dX6_init_15 : decode cX6_init 15 = .ok (.aload_n 0, 1) := by decide +kernel
theorem dX6_init_16 : decode cX6_init 16 = .ok (.new 11, 3) := by decide +kernel
theorem dX6_init_19 : decode cX6_init 19 = .ok (.dup, 1) := by decide +kernel
theorem dX6_init_20 : decode cX6_init 20 = .ok (.invokespecial 13, 3) := by decide +kernel
theorem dX6_init_23 : decode cX6_init 23 = .ok (.putfield 18, 3) := by decide +kernel
theorem dX6_init_26 : decode cX6_init 26 = .ok (.aload_n 0, 1) := by decide +kernel
theorem dX6_init_27 : decode cX6_init 27 = .ok (.aload_n 0, 1) := by decide +kernel
theorem dX6_init_28 : decode cX6_init 28 = .ok (.getfield 14, 3) := by decide +kernel
theorem dX6_init_31 : decode cX6_init 31 = .ok (.getfield 21, 3) := by decide +kernel
theorem dX6_init_34 : decode cX6_init 34 = .ok (.putfield 25, 3) := by decide +kernel
theorem dX6_init_37 : decode cX6_init 37 = .ok (.aload_n 0, 1) := by decide +kernel
theorem dX6_init_38 : decode cX6_init 38 = .ok (.new 26, 3) := by decide +kernel
theorem dX6_init_41 : decode cX6_init 41 = .ok (.dup, 1) := by decide +kernel
theorem dX6_init_42 : decode cX6_init 42 = .ok (.invokespecial 28, 3) := by decide +kernel
theorem dX6_init_45 : decode cX6_init 45 = .ok (.putfield 29, 3) := by decide +kernel
theorem dX6_init_48 : decode cX6_init 48 = .ok (.aload_n 0, 1) := by decide +kernel
theorem dX6_init_49 : decode cX6_init 49 = .ok (.new 32, 3) := by decide +kernel
theorem dX6_init_52 : decode cX6_init 52 = .ok (.dup, 1) := by decide +kernel
theorem dX6_init_53 : decode cX6_init 53 = .ok (.invokespecial 34, 3) := by decide +kernel
theorem dX6_init_56 : decode cX6_init 56 = .ok (.putfield 35, 3) := by decide +kernel
theorem dX6_init_59 : decode cX6_init 59 = .ok (.aload_n 0, 1) := by decide +kernel
theorem dX6_init_60 : decode cX6_init 60 = .ok (.iconst 4, 1) := by decide +kernel
theorem dX6_init_61 : decode cX6_init 61 = .ok (.anewarray 39, 3) := by decide +kernel
theorem dX6_init_64 : decode cX6_init 64 = .ok (.putfield 41, 3) := by decide +kernel
theorem dX6_init_67 : decode cX6_init 67 = .ok (.iconst 0, 1) := by decide +kernel
theorem dX6_init_68 : decode cX6_init 68 = .ok (.istore_n 1, 1) := by decide +kernel
theorem dX6_init_69 : decode cX6_init 69 = .ok (.iload_n 1, 1) := by decide +kernel
theorem dX6_init_70 : decode cX6_init 70 = .ok (.iconst 4, 1) := by decide +kernel
theorem dX6_init_71 : decode cX6_init 71 = .ok (.if_icmp .ge 22, 3) := by decide +kernel
theorem dX6_init_74 : decode cX6_init 74 = .ok (.aload_n 0, 1) := by decide +kernel
theorem dX6_init_75 : decode cX6_init 75 = .ok (.getfield 41, 3) := by decide +kernel
theorem dX6_init_78 : decode cX6_init 78 = .ok (.iload_n 1, 1) := by decide +kernel
theorem dX6_init_79 : decode cX6_init 79 = .ok (.new 39, 3) := by decide +kernel
theorem dX6_init_82 : decode cX6_init 82 = .ok (.dup, 1) := by decide +kernel
theorem dX6_init_83 : decode cX6_init 83 = .ok (.invokespecial 45, 3) := by decide +kernel
theorem dX6_init_86 : decode cX6_init 86 = .ok (.aastore, 1) := by decide +kernel
theorem dX6_init_87 : decode cX6_init 87 = .ok (.iinc 1 1, 3) := by decide +kernel
theorem dX6_init_90 : decode cX6_init 90 = .ok (.goto (-21), 3) := by decide +kernel
theorem dX6_init_93 : decode cX6_init 93 = .ok (.return_, 1) := by decide +kernel
theorem dX6_give_0 : decode cX6_give 0 = .ok (.iload_n 1, 1) := by decide +kernel
theorem dX6_give_1 : decode cX6_give 1 = .ok (.invokestatic 46, 3) := by decide +kernel
theorem dX6_give_4 : decode cX6_give 4 = .ok (.ifCond .ne 5, 3) := by decide +kernel
theorem dX6_give_7 : decode cX6_give 7 = .ok (.iconst (-1), 1) := by decide +kernel
theorem dX6_give_8 : decode cX6_give 8 = .ok (.ireturn, 1) := by decide +kernel
theorem dX6_give_9 : decode cX6_give 9 = .ok (.iload_n 2, 1) := by decide +kernel
theorem dX6_give_10 : decode cX6_give 10 = .ok (.i2l, 1) := by decide +kernel
theorem dX6_give_11 : decode cX6_give 11 = .ok (.invokestatic 50, 3) := by decide +kernel
theorem dX6_give_14 : decode cX6_give 14 = .ok (.ifCond .ne 6, 3) := by decide +kernel
theorem dX6_give_17 : decode cX6_give 17 = .ok (.bipush (-2), 2) := by decide +kernel
theorem dX6_give_19 : decode cX6_give 19 = .ok (.ireturn, 1) := by decide +kernel
theorem dX6_give_20 : decode cX6_give 20 = .ok (.aload_n 0, 1) := by decide +kernel
theorem dX6_give_21 : decode cX6_give 21 = .ok (.getfield 25, 3) := by decide +kernel
theorem dX6_give_24 : decode cX6_give 24 = .ok (.iload_n 1, 1) := by decide +kernel
theorem dX6_give_25 : decode cX6_give 25 = .ok (.iload_n 2, 1) := by decide +kernel
theorem dX6_give_26 : decode cX6_give 26 = .ok (.invokevirtual 54, 3) := by decide +kernel
theorem dX6_give_29 : decode cX6_give 29 = .ok (.ifCond .eq 7, 3) := by decide +kernel
theorem dX6_give_32 : decode cX6_give 32 = .ok (.iconst 1, 1) := by decide +kernel
theorem dX6_give_33 : decode cX6_give 33 = .ok (.goto 4, 3) := by decide +kernel
theorem dX6_give_36 : decode cX6_give 36 = .ok (.iconst 0, 1) := by decide +kernel
theorem dX6_give_37 : decode cX6_give 37 = .ok (.ireturn, 1) := by decide +kernel
theorem dX6_take_0 : decode cX6_take 0 = .ok (.aload_n 0, 1) := by decide +kernel
theorem dX6_take_1 : decode cX6_take 1 = .ok (.getfield 25, 3) := by decide +kernel
theorem dX6_take_4 : decode cX6_take 4 = .ok (.iload_n 1, 1) := by decide +kernel
theorem dX6_take_5 : decode cX6_take 5 = .ok (.invokevirtual 58, 3) := by decide +kernel
theorem dX6_take_8 : decode cX6_take 8 = .ok (.astore_n 2, 1) := by decide +kernel
theorem dX6_take_9 : decode cX6_take 9 = .ok (.aload_n 2, 1) := by decide +kernel
theorem dX6_take_10 : decode cX6_take 10 = .ok (.ifnonnull 17, 3) := by decide +kernel
theorem dX6_take_13 : decode cX6_take 13 = .ok (.iload_n 1, 1) := by decide +kernel
theorem dX6_take_14 : decode cX6_take 14 = .ok (.invokestatic 46, 3) := by decide +kernel
theorem dX6_take_17 : decode cX6_take 17 = .ok (.ifCond .eq 8, 3) := by decide +kernel
theorem dX6_take_20 : decode cX6_take 20 = .ok (.bipush (-3), 2) := by decide +kernel
theorem dX6_take_22 : decode cX6_take 22 = .ok (.goto 4, 3) := by decide +kernel
theorem dX6_take_25 : decode cX6_take 25 = .ok (.iconst (-1), 1) := by decide +kernel
theorem dX6_take_26 : decode cX6_take 26 = .ok (.ireturn, 1) := by decide +kernel
theorem dX6_take_27 : decode cX6_take 27 = .ok (.aload_n 0, 1) := by decide +kernel
theorem dX6_take_28 : decode cX6_take 28 = .ok (.getfield 25, 3) := by decide +kernel
theorem dX6_take_31 : decode cX6_take 31 = .ok (.iload_n 1, 1) := by decide +kernel
theorem dX6_take_32 : decode cX6_take 32 = .ok (.invokevirtual 62, 3) := by decide +kernel
theorem dX6_take_35 : decode cX6_take 35 = .ok (.aload_n 2, 1) := by decide +kernel
theorem dX6_take_36 : decode cX6_take 36 = .ok (.getfield 66, 3) := by decide +kernel
theorem dX6_take_39 : decode cX6_take 39 = .ok (.ireturn, 1) := by decide +kernel
theorem dX6_feed_0 : decode cX6_feed 0 = .ok (.iload_n 1, 1) := by decide +kernel
theorem dX6_feed_1 : decode cX6_feed 1 = .ok (.iconst 1, 1) := by decide +kernel
theorem dX6_feed_2 : decode cX6_feed 2 = .ok (.if_icmp .lt 9, 3) := by decide +kernel
theorem dX6_feed_5 : decode cX6_feed 5 = .ok (.iload_n 1, 1) := by decide +kernel
theorem dX6_feed_6 : decode cX6_feed 6 = .ok (.bipush 127, 2) := by decide +kernel
theorem dX6_feed_8 : decode cX6_feed 8 = .ok (.if_icmp .le 6, 3) := by decide +kernel
theorem dX6_feed_11 : decode cX6_feed 11 = .ok (.bipush (-2), 2) := by decide +kernel
theorem dX6_feed_13 : decode cX6_feed 13 = .ok (.ireturn, 1) := by decide +kernel
theorem dX6_feed_14 : decode cX6_feed 14 = .ok (.aload_n 0, 1) := by decide +kernel
theorem dX6_feed_15 : decode cX6_feed 15 = .ok (.getfield 35, 3) := by decide +kernel
theorem dX6_feed_18 : decode cX6_feed 18 = .ok (.iload_n 1, 1) := by decide +kernel
theorem dX6_feed_19 : decode cX6_feed 19 = .ok (.invokevirtual 72, 3) := by decide +kernel
theorem dX6_feed_22 : decode cX6_feed 22 = .ok (.ifCond .eq 13, 3) := by decide +kernel
theorem dX6_feed_25 : decode cX6_feed 25 = .ok (.aload_n 0, 1) := by decide +kernel
theorem dX6_feed_26 : decode cX6_feed 26 = .ok (.getfield 35, 3) := by decide +kernel
theorem dX6_feed_29 : decode cX6_feed 29 = .ok (.getfield 75, 3) := by decide +kernel
theorem dX6_feed_32 : decode cX6_feed 32 = .ok (.goto 5, 3) := by decide +kernel
theorem dX6_feed_35 : decode cX6_feed 35 = .ok (.bipush (-4), 2) := by decide +kernel
theorem dX6_feed_37 : decode cX6_feed 37 = .ok (.ireturn, 1) := by decide +kernel
theorem dX6_clear_0 : decode cX6_clear 0 = .ok (.aload_n 0, 1) := by decide +kernel
theorem dX6_clear_1 : decode cX6_clear 1 = .ok (.getfield 35, 3) := by decide +kernel
theorem dX6_clear_4 : decode cX6_clear 4 = .ok (.invokevirtual 78, 3) := by decide +kernel
theorem dX6_clear_7 : decode cX6_clear 7 = .ok (.ireturn, 1) := by decide +kernel
theorem dX6_rule_0 : decode cX6_rule 0 = .ok (.aload_n 0, 1) := by decide +kernel
theorem dX6_rule_1 : decode cX6_rule 1 = .ok (.getfield 25, 3) := by decide +kernel
theorem dX6_rule_4 : decode cX6_rule 4 = .ok (.iload_n 1, 1) := by decide +kernel
theorem dX6_rule_5 : decode cX6_rule 5 = .ok (.invokevirtual 82, 3) := by decide +kernel
theorem dX6_rule_8 : decode cX6_rule 8 = .ok (.astore_n 2, 1) := by decide +kernel
theorem dX6_rule_9 : decode cX6_rule 9 = .ok (.aload_n 2, 1) := by decide +kernel
theorem dX6_rule_10 : decode cX6_rule 10 = .ok (.ifnonnull 5, 3) := by decide +kernel
theorem dX6_rule_13 : decode cX6_rule 13 = .ok (.iconst (-1), 1) := by decide +kernel
theorem dX6_rule_14 : decode cX6_rule 14 = .ok (.ireturn, 1) := by decide +kernel
theorem dX6_rule_15 : decode cX6_rule 15 = .ok (.aload_n 0, 1) := by decide +kernel
theorem dX6_rule_16 : decode cX6_rule 16 = .ok (.getfield 35, 3) := by decide +kernel
theorem dX6_rule_19 : decode cX6_rule 19 = .ok (.invokevirtual 86, 3) := by decide +kernel
theorem dX6_rule_22 : decode cX6_rule 22 = .ok (.istore_n 3, 1) := by decide +kernel
theorem dX6_rule_23 : decode cX6_rule 23 = .ok (.iload_n 3, 1) := by decide +kernel
theorem dX6_rule_24 : decode cX6_rule 24 = .ok (.iconst (-1), 1) := by decide +kernel
theorem dX6_rule_25 : decode cX6_rule 25 = .ok (.if_icmp .ne 11, 3) := by decide +kernel
theorem dX6_rule_28 : decode cX6_rule 28 = .ok (.aload_n 2, 1) := by decide +kernel
theorem dX6_rule_29 : decode cX6_rule 29 = .ok (.aload_n 0, 1) := by decide +kernel
theorem dX6_rule_30 : decode cX6_rule 30 = .ok (.getfield 35, 3) := by decide +kernel
theorem dX6_rule_33 : decode cX6_rule 33 = .ok (.invokevirtual 89, 3) := by decide +kernel
theorem dX6_rule_36 : decode cX6_rule 36 = .ok (.aload_n 0, 1) := by decide +kernel
theorem dX6_rule_37 : decode cX6_rule 37 = .ok (.getfield 35, 3) := by decide +kernel
theorem dX6_rule_40 : decode cX6_rule 40 = .ok (.invokevirtual 78, 3) := by decide +kernel
theorem dX6_rule_43 : decode cX6_rule 43 = .ok (.pop, 1) := by decide +kernel
theorem dX6_rule_44 : decode cX6_rule 44 = .ok (.iload_n 3, 1) := by decide +kernel
theorem dX6_rule_45 : decode cX6_rule 45 = .ok (.iconst (-1), 1) := by decide +kernel
theorem dX6_rule_46 : decode cX6_rule 46 = .ok (.if_icmp .ne 10, 3) := by decide +kernel
theorem dX6_rule_49 : decode cX6_rule 49 = .ok (.aload_n 2, 1) := by decide +kernel
theorem dX6_rule_50 : decode cX6_rule 50 = .ok (.getfield 95, 3) := by decide +kernel
theorem dX6_rule_53 : decode cX6_rule 53 = .ok (.goto 7, 3) := by decide +kernel
theorem dX6_rule_56 : decode cX6_rule 56 = .ok (.bipush (-100), 2) := by decide +kernel
theorem dX6_rule_58 : decode cX6_rule 58 = .ok (.iload_n 3, 1) := by decide +kernel
theorem dX6_rule_59 : decode cX6_rule 59 = .ok (.isub, 1) := by decide +kernel
theorem dX6_rule_60 : decode cX6_rule 60 = .ok (.ireturn, 1) := by decide +kernel
theorem dX6_drop_0 : decode cX6_drop 0 = .ok (.aload_n 0, 1) := by decide +kernel
theorem dX6_drop_1 : decode cX6_drop 1 = .ok (.getfield 25, 3) := by decide +kernel
theorem dX6_drop_4 : decode cX6_drop 4 = .ok (.iload_n 1, 1) := by decide +kernel
theorem dX6_drop_5 : decode cX6_drop 5 = .ok (.invokevirtual 82, 3) := by decide +kernel
theorem dX6_drop_8 : decode cX6_drop 8 = .ok (.astore_n 2, 1) := by decide +kernel
theorem dX6_drop_9 : decode cX6_drop 9 = .ok (.aload_n 2, 1) := by decide +kernel
theorem dX6_drop_10 : decode cX6_drop 10 = .ok (.ifnonnull 5, 3) := by decide +kernel
theorem dX6_drop_13 : decode cX6_drop 13 = .ok (.iconst (-1), 1) := by decide +kernel
theorem dX6_drop_14 : decode cX6_drop 14 = .ok (.ireturn, 1) := by decide +kernel
theorem dX6_drop_15 : decode cX6_drop 15 = .ok (.aload_n 2, 1) := by decide +kernel
theorem dX6_drop_16 : decode cX6_drop 16 = .ok (.getfield 95, 3) := by decide +kernel
theorem dX6_drop_19 : decode cX6_drop 19 = .ok (.istore_n 3, 1) := by decide +kernel
theorem dX6_drop_20 : decode cX6_drop 20 = .ok (.iload_n 3, 1) := by decide +kernel
theorem dX6_drop_21 : decode cX6_drop 21 = .ok (.ifCond .ne 6, 3) := by decide +kernel
theorem dX6_drop_24 : decode cX6_drop 24 = .ok (.bipush (-3), 2) := by decide +kernel
theorem dX6_drop_26 : decode cX6_drop 26 = .ok (.ireturn, 1) := by decide +kernel
theorem dX6_drop_27 : decode cX6_drop 27 = .ok (.aload_n 2, 1) := by decide +kernel
theorem dX6_drop_28 : decode cX6_drop 28 = .ok (.invokevirtual 98, 3) := by decide +kernel
theorem dX6_drop_31 : decode cX6_drop 31 = .ok (.iload_n 3, 1) := by decide +kernel
theorem dX6_drop_32 : decode cX6_drop 32 = .ok (.ireturn, 1) := by decide +kernel
theorem dX6_copy_0 : decode cX6_copy 0 = .ok (.aload_n 0, 1) := by decide +kernel
theorem dX6_copy_1 : decode cX6_copy 1 = .ok (.getfield 25, 3) := by decide +kernel
theorem dX6_copy_4 : decode cX6_copy 4 = .ok (.iload_n 1, 1) := by decide +kernel
theorem dX6_copy_5 : decode cX6_copy 5 = .ok (.invokevirtual 82, 3) := by decide +kernel
theorem dX6_copy_8 : decode cX6_copy 8 = .ok (.astore_n 3, 1) := by decide +kernel
theorem dX6_copy_9 : decode cX6_copy 9 = .ok (.aload_n 0, 1) := by decide +kernel
theorem dX6_copy_10 : decode cX6_copy 10 = .ok (.getfield 25, 3) := by decide +kernel
theorem dX6_copy_13 : decode cX6_copy 13 = .ok (.iload_n 2, 1) := by decide +kernel
theorem dX6_copy_14 : decode cX6_copy 14 = .ok (.invokevirtual 82, 3) := by decide +kernel
theorem dX6_copy_17 : decode cX6_copy 17 = .ok (.astore 4, 2) := by decide +kernel
theorem dX6_copy_19 : decode cX6_copy 19 = .ok (.aload_n 3, 1) := by decide +kernel
theorem dX6_copy_20 : decode cX6_copy 20 = .ok (.ifnull 8, 3) := by decide +kernel
theorem dX6_copy_23 : decode cX6_copy 23 = .ok (.aload 4, 2) := by decide +kernel
theorem dX6_copy_25 : decode cX6_copy 25 = .ok (.ifnonnull 5, 3) := by decide +kernel
theorem dX6_copy_28 : decode cX6_copy 28 = .ok (.iconst (-1), 1) := by decide +kernel
theorem dX6_copy_29 : decode cX6_copy 29 = .ok (.ireturn, 1) := by decide +kernel
theorem dX6_copy_30 : decode cX6_copy 30 = .ok (.aload_n 3, 1) := by decide +kernel
theorem dX6_copy_31 : decode cX6_copy 31 = .ok (.getfield 95, 3) := by decide +kernel
theorem dX6_copy_34 : decode cX6_copy 34 = .ok (.ifCond .ne 6, 3) := by decide +kernel
theorem dX6_copy_37 : decode cX6_copy 37 = .ok (.bipush (-3), 2) := by decide +kernel
theorem dX6_copy_39 : decode cX6_copy 39 = .ok (.ireturn, 1) := by decide +kernel
theorem dX6_copy_40 : decode cX6_copy 40 = .ok (.aload 4, 2) := by decide +kernel
theorem dX6_copy_42 : decode cX6_copy 42 = .ok (.aload_n 3, 1) := by decide +kernel
theorem dX6_copy_43 : decode cX6_copy 43 = .ok (.invokevirtual 101, 3) := by decide +kernel
theorem dX6_copy_46 : decode cX6_copy 46 = .ok (.aload 4, 2) := by decide +kernel
theorem dX6_copy_48 : decode cX6_copy 48 = .ok (.getfield 95, 3) := by decide +kernel
theorem dX6_copy_51 : decode cX6_copy 51 = .ok (.ireturn, 1) := by decide +kernel
theorem dX6_step_0 : decode cX6_step 0 = .ok (.aload_n 0, 1) := by decide +kernel
theorem dX6_step_1 : decode cX6_step 1 = .ok (.getfield 25, 3) := by decide +kernel
theorem dX6_step_4 : decode cX6_step 4 = .ok (.iload_n 1, 1) := by decide +kernel
theorem dX6_step_5 : decode cX6_step 5 = .ok (.invokevirtual 82, 3) := by decide +kernel
theorem dX6_step_8 : decode cX6_step 8 = .ok (.astore_n 3, 1) := by decide +kernel
theorem dX6_step_9 : decode cX6_step 9 = .ok (.aload_n 3, 1) := by decide +kernel
theorem dX6_step_10 : decode cX6_step 10 = .ok (.ifnull 8, 3) := by decide +kernel
theorem dX6_step_13 : decode cX6_step 13 = .ok (.iload_n 2, 1) := by decide +kernel
theorem dX6_step_14 : decode cX6_step 14 = .ok (.iconst (-1), 1) := by decide +kernel
theorem dX6_step_15 : decode cX6_step 15 = .ok (.if_icmp .ge 5, 3) := by decide +kernel
theorem dX6_step_18 : decode cX6_step 18 = .ok (.iconst (-1), 1) := by decide +kernel
theorem dX6_step_19 : decode cX6_step 19 = .ok (.ireturn, 1) := by decide +kernel
theorem dX6_step_20 : decode cX6_step 20 = .ok (.aload_n 3, 1) := by decide +kernel
theorem dX6_step_21 : decode cX6_step 21 = .ok (.getfield 95, 3) := by decide +kernel
theorem dX6_step_24 : decode cX6_step 24 = .ok (.ifCond .ne 6, 3) := by decide +kernel
theorem dX6_step_27 : decode cX6_step 27 = .ok (.bipush (-3), 2) := by decide +kernel
theorem dX6_step_29 : decode cX6_step 29 = .ok (.ireturn, 1) := by decide +kernel
theorem dX6_step_30 : decode cX6_step 30 = .ok (.iload_n 2, 1) := by decide +kernel
theorem dX6_step_31 : decode cX6_step 31 = .ok (.iconst (-1), 1) := by decide +kernel
theorem dX6_step_32 : decode cX6_step 32 = .ok (.if_icmp .ne 8, 3) := by decide +kernel
theorem dX6_step_35 : decode cX6_step 35 = .ok (.aload_n 3, 1) := by decide +kernel
theorem dX6_step_36 : decode cX6_step 36 = .ok (.getfield 95, 3) := by decide +kernel
theorem dX6_step_39 : decode cX6_step 39 = .ok (.ireturn, 1) := by decide +kernel
theorem dX6_step_40 : decode cX6_step 40 = .ok (.iload_n 2, 1) := by decide +kernel
theorem dX6_step_41 : decode cX6_step 41 = .ok (.aload_n 3, 1) := by decide +kernel
theorem dX6_step_42 : decode cX6_step 42 = .ok (.getfield 95, 3) := by decide +kernel
theorem dX6_step_45 : decode cX6_step 45 = .ok (.if_icmp .ge 20, 3) := by decide +kernel
theorem dX6_step_48 : decode cX6_step 48 = .ok (.bipush 100, 2) := by decide +kernel
theorem dX6_step_50 : decode cX6_step 50 = .ok (.aload_n 3, 1) := by decide +kernel
theorem dX6_step_51 : decode cX6_step 51 = .ok (.iload_n 2, 1) := by decide +kernel
theorem dX6_step_52 : decode cX6_step 52 = .ok (.invokevirtual 105, 3) := by decide +kernel
theorem dX6_step_55 : decode cX6_step 55 = .ok (.imul, 1) := by decide +kernel
theorem dX6_step_56 : decode cX6_step 56 = .ok (.aload_n 3, 1) := by decide +kernel
theorem dX6_step_57 : decode cX6_step 57 = .ok (.iload_n 2, 1) := by decide +kernel
theorem dX6_step_58 : decode cX6_step 58 = .ok (.invokevirtual 109, 3) := by decide +kernel
theorem dX6_step_61 : decode cX6_step 61 = .ok (.iadd, 1) := by decide +kernel
theorem dX6_step_62 : decode cX6_step 62 = .ok (.goto 4, 3) := by decide +kernel
theorem dX6_step_65 : decode cX6_step 65 = .ok (.iconst (-1), 1) := by decide +kernel
theorem dX6_step_66 : decode cX6_step 66 = .ok (.ireturn, 1) := by decide +kernel
theorem dX6_build_0 : decode cX6_build 0 = .ok (.iload_n 1, 1) := by decide +kernel
theorem dX6_build_1 : decode cX6_build 1 = .ok (.invokestatic 112, 3) := by decide +kernel
theorem dX6_build_4 : decode cX6_build 4 = .ok (.ifCond .eq 14, 3) := by decide +kernel
theorem dX6_build_7 : decode cX6_build 7 = .ok (.aload_n 0, 1) := by decide +kernel
theorem dX6_build_8 : decode cX6_build 8 = .ok (.getfield 14, 3) := by decide +kernel
theorem dX6_build_11 : decode cX6_build 11 = .ok (.iload_n 1, 1) := by decide +kernel
theorem dX6_build_12 : decode cX6_build 12 = .ok (.invokevirtual 115, 3) := by decide +kernel
theorem dX6_build_15 : decode cX6_build 15 = .ok (.goto 4, 3) := by decide +kernel
theorem dX6_build_18 : decode cX6_build 18 = .ok (.iconst (-1), 1) := by decide +kernel
theorem dX6_build_19 : decode cX6_build 19 = .ok (.ireturn, 1) := by decide +kernel
theorem dX6_all_0 : decode cX6_all 0 = .ok (.iload_n 1, 1) := by decide +kernel
theorem dX6_all_1 : decode cX6_all 1 = .ok (.invokestatic 118, 3) := by decide +kernel
theorem dX6_all_4 : decode cX6_all 4 = .ok (.ifCond .eq 25, 3) := by decide +kernel
theorem dX6_all_7 : decode cX6_all 7 = .ok (.aload_n 0, 1) := by decide +kernel
theorem dX6_all_8 : decode cX6_all 8 = .ok (.getfield 14, 3) := by decide +kernel
theorem dX6_all_11 : decode cX6_all 11 = .ok (.ldc 121, 2) := by decide +kernel
theorem dX6_all_13 : decode cX6_all 13 = .ok (.iload_n 1, 1) := by decide +kernel
theorem dX6_all_14 : decode cX6_all 14 = .ok (.iconst 1, 1) := by decide +kernel
theorem dX6_all_15 : decode cX6_all 15 = .ok (.if_icmp .ne 7, 3) := by decide +kernel
theorem dX6_all_18 : decode cX6_all 18 = .ok (.iconst 1, 1) := by decide +kernel
theorem dX6_all_19 : decode cX6_all 19 = .ok (.goto 4, 3) := by decide +kernel
theorem dX6_all_22 : decode cX6_all 22 = .ok (.iconst 0, 1) := by decide +kernel
theorem dX6_all_23 : decode cX6_all 23 = .ok (.invokevirtual 122, 3) := by decide +kernel
theorem dX6_all_26 : decode cX6_all 26 = .ok (.goto 4, 3) := by decide +kernel
theorem dX6_all_29 : decode cX6_all 29 = .ok (.iconst (-1), 1) := by decide +kernel
theorem dX6_all_30 : decode cX6_all 30 = .ok (.ireturn, 1) := by decide +kernel
theorem dX6_some_0 : decode cX6_some 0 = .ok (.iload_n 1, 1) := by decide +kernel
theorem dX6_some_1 : decode cX6_some 1 = .ok (.ifCond .lt 9, 3) := by decide +kernel
theorem dX6_some_4 : decode cX6_some 4 = .ok (.iload_n 1, 1) := by decide +kernel
theorem dX6_some_5 : decode cX6_some 5 = .ok (.ldc 121, 2) := by decide +kernel
theorem dX6_some_7 : decode cX6_some 7 = .ok (.if_icmp .le 6, 3) := by decide +kernel
theorem dX6_some_10 : decode cX6_some 10 = .ok (.bipush (-2), 2) := by decide +kernel
theorem dX6_some_12 : decode cX6_some 12 = .ok (.ireturn, 1) := by decide +kernel
theorem dX6_some_13 : decode cX6_some 13 = .ok (.iload_n 2, 1) := by decide +kernel
theorem dX6_some_14 : decode cX6_some 14 = .ok (.invokestatic 118, 3) := by decide +kernel
theorem dX6_some_17 : decode cX6_some 17 = .ok (.ifCond .eq 24, 3) := by decide +kernel
theorem dX6_some_20 : decode cX6_some 20 = .ok (.aload_n 0, 1) := by decide +kernel
theorem dX6_some_21 : decode cX6_some 21 = .ok (.getfield 14, 3) := by decide +kernel
theorem dX6_some_24 : decode cX6_some 24 = .ok (.iload_n 1, 1) := by decide +kernel
theorem dX6_some_25 : decode cX6_some 25 = .ok (.iload_n 2, 1) := by decide +kernel
theorem dX6_some_26 : decode cX6_some 26 = .ok (.iconst 1, 1) := by decide +kernel
theorem dX6_some_27 : decode cX6_some 27 = .ok (.if_icmp .ne 7, 3) := by decide +kernel
theorem dX6_some_30 : decode cX6_some 30 = .ok (.iconst 1, 1) := by decide +kernel
theorem dX6_some_31 : decode cX6_some 31 = .ok (.goto 4, 3) := by decide +kernel
theorem dX6_some_34 : decode cX6_some 34 = .ok (.iconst 0, 1) := by decide +kernel
theorem dX6_some_35 : decode cX6_some 35 = .ok (.invokevirtual 122, 3) := by decide +kernel
theorem dX6_some_38 : decode cX6_some 38 = .ok (.goto 4, 3) := by decide +kernel
theorem dX6_some_41 : decode cX6_some 41 = .ok (.iconst (-1), 1) := by decide +kernel
theorem dX6_some_42 : decode cX6_some 42 = .ok (.ireturn, 1) := by decide +kernel
theorem dX6_tried_0 : decode cX6_tried 0 = .ok (.iload_n 1, 1) := by decide +kernel
theorem dX6_tried_1 : decode cX6_tried 1 = .ok (.invokestatic 112, 3) := by decide +kernel
theorem dX6_tried_4 : decode cX6_tried 4 = .ok (.ifCond .eq 10, 3) := by decide +kernel
theorem dX6_tried_7 : decode cX6_tried 7 = .ok (.iload_n 2, 1) := by decide +kernel
theorem dX6_tried_8 : decode cX6_tried 8 = .ok (.invokestatic 46, 3) := by decide +kernel
theorem dX6_tried_11 : decode cX6_tried 11 = .ok (.ifCond .ne 5, 3) := by decide +kernel
theorem dX6_tried_14 : decode cX6_tried 14 = .ok (.iconst (-1), 1) := by decide +kernel
theorem dX6_tried_15 : decode cX6_tried 15 = .ok (.ireturn, 1) := by decide +kernel
theorem dX6_tried_16 : decode cX6_tried 16 = .ok (.iload_n 3, 1) := by decide +kernel
theorem dX6_tried_17 : decode cX6_tried 17 = .ok (.i2l, 1) := by decide +kernel
theorem dX6_tried_18 : decode cX6_tried 18 = .ok (.invokestatic 50, 3) := by decide +kernel
theorem dX6_tried_21 : decode cX6_tried 21 = .ok (.ifCond .ne 6, 3) := by decide +kernel
theorem dX6_tried_24 : decode cX6_tried 24 = .ok (.bipush (-2), 2) := by decide +kernel
theorem dX6_tried_26 : decode cX6_tried 26 = .ok (.ireturn, 1) := by decide +kernel
theorem dX6_tried_27 : decode cX6_tried 27 = .ok (.aload_n 0, 1) := by decide +kernel
theorem dX6_tried_28 : decode cX6_tried 28 = .ok (.getfield 18, 3) := by decide +kernel
theorem dX6_tried_31 : decode cX6_tried 31 = .ok (.getfield 21, 3) := by decide +kernel
theorem dX6_tried_34 : decode cX6_tried 34 = .ok (.aload_n 0, 1) := by decide +kernel
theorem dX6_tried_35 : decode cX6_tried 35 = .ok (.getfield 25, 3) := by decide +kernel
theorem dX6_tried_38 : decode cX6_tried 38 = .ok (.invokevirtual 126, 3) := by decide +kernel
theorem dX6_tried_41 : decode cX6_tried 41 = .ok (.aload_n 0, 1) := by decide +kernel
theorem dX6_tried_42 : decode cX6_tried 42 = .ok (.getfield 18, 3) := by decide +kernel
theorem dX6_tried_45 : decode cX6_tried 45 = .ok (.getfield 21, 3) := by decide +kernel
theorem dX6_tried_48 : decode cX6_tried 48 = .ok (.iload_n 2, 1) := by decide +kernel
theorem dX6_tried_49 : decode cX6_tried 49 = .ok (.iload_n 3, 1) := by decide +kernel
theorem dX6_tried_50 : decode cX6_tried 50 = .ok (.invokevirtual 54, 3) := by decide +kernel
theorem dX6_tried_53 : decode cX6_tried 53 = .ok (.pop, 1) := by decide +kernel
theorem dX6_tried_54 : decode cX6_tried 54 = .ok (.aload_n 0, 1) := by decide +kernel
theorem dX6_tried_55 : decode cX6_tried 55 = .ok (.getfield 18, 3) := by decide +kernel
theorem dX6_tried_58 : decode cX6_tried 58 = .ok (.iload_n 1, 1) := by decide +kernel
theorem dX6_tried_59 : decode cX6_tried 59 = .ok (.invokevirtual 115, 3) := by decide +kernel
theorem dX6_tried_62 : decode cX6_tried 62 = .ok (.ireturn, 1) := by decide +kernel
theorem dX6_result_0 : decode cX6_result 0 = .ok (.iload_n 1, 1) := by decide +kernel
theorem dX6_result_1 : decode cX6_result 1 = .ok (.invokestatic 130, 3) := by decide +kernel
theorem dX6_result_4 : decode cX6_result 4 = .ok (.ifCond .eq 14, 3) := by decide +kernel
theorem dX6_result_7 : decode cX6_result 7 = .ok (.aload_n 0, 1) := by decide +kernel
theorem dX6_result_8 : decode cX6_result 8 = .ok (.getfield 25, 3) := by decide +kernel
theorem dX6_result_11 : decode cX6_result 11 = .ok (.iload_n 1, 1) := by decide +kernel
theorem dX6_result_12 : decode cX6_result 12 = .ok (.invokevirtual 133, 3) := by decide +kernel
theorem dX6_result_15 : decode cX6_result 15 = .ok (.goto 4, 3) := by decide +kernel
theorem dX6_result_18 : decode cX6_result 18 = .ok (.iconst (-1), 1) := by decide +kernel
theorem dX6_result_19 : decode cX6_result 19 = .ok (.ireturn, 1) := by decide +kernel
theorem dX6_failure_0 : decode cX6_failure 0 = .ok (.iload_n 1, 1) := by decide +kernel
theorem dX6_failure_1 : decode cX6_failure 1 = .ok (.invokestatic 112, 3) := by decide +kernel
theorem dX6_failure_4 : decode cX6_failure 4 = .ok (.ifCond .eq 12, 3) := by decide +kernel
theorem dX6_failure_7 : decode cX6_failure 7 = .ok (.iload_n 3, 1) := by decide +kernel
theorem dX6_failure_8 : decode cX6_failure 8 = .ok (.ifCond .lt 8, 3) := by decide +kernel
theorem dX6_failure_11 : decode cX6_failure 11 = .ok (.iload_n 3, 1) := by decide +kernel
theorem dX6_failure_12 : decode cX6_failure 12 = .ok (.iconst 2, 1) := by decide +kernel
theorem dX6_failure_13 : decode cX6_failure 13 = .ok (.if_icmp .le 5, 3) := by decide +kernel
theorem dX6_failure_16 : decode cX6_failure 16 = .ok (.iconst (-1), 1) := by decide +kernel
theorem dX6_failure_17 : decode cX6_failure 17 = .ok (.ireturn, 1) := by decide +kernel
theorem dX6_failure_18 : decode cX6_failure 18 = .ok (.iload_n 2, 1) := by decide +kernel
theorem dX6_failure_19 : decode cX6_failure 19 = .ok (.ifCond .ge 7, 3) := by decide +kernel
theorem dX6_failure_22 : decode cX6_failure 22 = .ok (.aconst_null, 1) := by decide +kernel
theorem dX6_failure_23 : decode cX6_failure 23 = .ok (.goto 11, 3) := by decide +kernel
theorem dX6_failure_26 : decode cX6_failure 26 = .ok (.aload_n 0, 1) := by decide +kernel
theorem dX6_failure_27 : decode cX6_failure 27 = .ok (.getfield 25, 3) := by decide +kernel
theorem dX6_failure_30 : decode cX6_failure 30 = .ok (.iload_n 1, 1) := by decide +kernel
theorem dX6_failure_31 : decode cX6_failure 31 = .ok (.invokevirtual 136, 3) := by decide +kernel
theorem dX6_failure_34 : decode cX6_failure 34 = .ok (.astore 4, 2) := by decide +kernel
theorem dX6_failure_36 : decode cX6_failure 36 = .ok (.iconst 0, 1) := by decide +kernel
theorem dX6_failure_37 : decode cX6_failure 37 = .ok (.istore 5, 2) := by decide +kernel
theorem dX6_failure_39 : decode cX6_failure 39 = .ok (.aload 4, 2) := by decide +kernel
theorem dX6_failure_41 : decode cX6_failure 41 = .ok (.ifnull 22, 3) := by decide +kernel
theorem dX6_failure_44 : decode cX6_failure 44 = .ok (.iload 5, 2) := by decide +kernel
theorem dX6_failure_46 : decode cX6_failure 46 = .ok (.iload_n 2, 1) := by decide +kernel
theorem dX6_failure_47 : decode cX6_failure 47 = .ok (.if_icmp .ge 16, 3) := by decide +kernel
theorem dX6_failure_50 : decode cX6_failure 50 = .ok (.aload 4, 2) := by decide +kernel
theorem dX6_failure_52 : decode cX6_failure 52 = .ok (.getfield 139, 3) := by decide +kernel
theorem dX6_failure_55 : decode cX6_failure 55 = .ok (.astore 4, 2) := by decide +kernel
theorem dX6_failure_57 : decode cX6_failure 57 = .ok (.iinc 5 1, 3) := by decide +kernel
theorem dX6_failure_60 : decode cX6_failure 60 = .ok (.goto (-21), 3) := by decide +kernel
theorem dX6_failure_63 : decode cX6_failure 63 = .ok (.aload 4, 2) := by decide +kernel
theorem dX6_failure_65 : decode cX6_failure 65 = .ok (.ifnonnull 6, 3) := by decide +kernel
theorem dX6_failure_68 : decode cX6_failure 68 = .ok (.bipush (-3), 2) := by decide +kernel
theorem dX6_failure_70 : decode cX6_failure 70 = .ok (.ireturn, 1) := by decide +kernel
theorem dX6_failure_71 : decode cX6_failure 71 = .ok (.iload_n 3, 1) := by decide +kernel
theorem dX6_failure_72 : decode cX6_failure 72 = .ok (.ifCond .ne 9, 3) := by decide +kernel
theorem dX6_failure_75 : decode cX6_failure 75 = .ok (.aload 4, 2) := by decide +kernel
theorem dX6_failure_77 : decode cX6_failure 77 = .ok (.getfield 143, 3) := by decide +kernel
theorem dX6_failure_80 : decode cX6_failure 80 = .ok (.ireturn, 1) := by decide +kernel
theorem dX6_failure_81 : decode cX6_failure 81 = .ok (.iload_n 3, 1) := by decide +kernel
theorem dX6_failure_82 : decode cX6_failure 82 = .ok (.iconst 1, 1) := by decide +kernel
theorem dX6_failure_83 : decode cX6_failure 83 = .ok (.if_icmp .ne 11, 3) := by decide +kernel
theorem dX6_failure_86 : decode cX6_failure 86 = .ok (.aload 4, 2) := by decide +kernel
theorem dX6_failure_88 : decode cX6_failure 88 = .ok (.getfield 146, 3) := by decide +kernel
theorem dX6_failure_91 : decode cX6_failure 91 = .ok (.goto 8, 3) := by decide +kernel
theorem dX6_failure_94 : decode cX6_failure 94 = .ok (.aload 4, 2) := by decide +kernel
theorem dX6_failure_96 : decode cX6_failure 96 = .ok (.getfield 149, 3) := by decide +kernel
theorem dX6_failure_99 : decode cX6_failure 99 = .ok (.ireturn, 1) := by decide +kernel
theorem dX6_causes_0 : decode cX6_causes 0 = .ok (.iload_n 1, 1) := by decide +kernel
theorem dX6_causes_1 : decode cX6_causes 1 = .ok (.invokestatic 112, 3) := by decide +kernel
theorem dX6_causes_4 : decode cX6_causes 4 = .ok (.ifCond .ne 5, 3) := by decide +kernel
theorem dX6_causes_7 : decode cX6_causes 7 = .ok (.iconst (-1), 1) := by decide +kernel
theorem dX6_causes_8 : decode cX6_causes 8 = .ok (.ireturn, 1) := by decide +kernel
theorem dX6_causes_9 : decode cX6_causes 9 = .ok (.aload_n 0, 1) := by decide +kernel
theorem dX6_causes_10 : decode cX6_causes 10 = .ok (.getfield 25, 3) := by decide +kernel
theorem dX6_causes_13 : decode cX6_causes 13 = .ok (.iload_n 1, 1) := by decide +kernel
theorem dX6_causes_14 : decode cX6_causes 14 = .ok (.invokevirtual 136, 3) := by decide +kernel
theorem dX6_causes_17 : decode cX6_causes 17 = .ok (.astore_n 2, 1) := by decide +kernel
theorem dX6_causes_18 : decode cX6_causes 18 = .ok (.aload_n 2, 1) := by decide +kernel
theorem dX6_causes_19 : decode cX6_causes 19 = .ok (.ifnonnull 8, 3) := by decide +kernel
theorem dX6_causes_22 : decode cX6_causes 22 = .ok (.bipush (-5), 2) := by decide +kernel
theorem dX6_causes_24 : decode cX6_causes 24 = .ok (.goto 7, 3) := by decide +kernel
theorem dX6_causes_27 : decode cX6_causes 27 = .ok (.aload_n 2, 1) := by decide +kernel
theorem dX6_causes_28 : decode cX6_causes 28 = .ok (.invokevirtual 152, 3) := by decide +kernel
theorem dX6_causes_31 : decode cX6_causes 31 = .ok (.ireturn, 1) := by decide +kernel
theorem dX6_root_0 : decode cX6_root 0 = .ok (.iload_n 1, 1) := by decide +kernel
theorem dX6_root_1 : decode cX6_root 1 = .ok (.invokestatic 112, 3) := by decide +kernel
theorem dX6_root_4 : decode cX6_root 4 = .ok (.ifCond .ne 5, 3) := by decide +kernel
theorem dX6_root_7 : decode cX6_root 7 = .ok (.iconst (-1), 1) := by decide +kernel
theorem dX6_root_8 : decode cX6_root 8 = .ok (.ireturn, 1) := by decide +kernel
theorem dX6_root_9 : decode cX6_root 9 = .ok (.aload_n 0, 1) := by decide +kernel
theorem dX6_root_10 : decode cX6_root 10 = .ok (.getfield 25, 3) := by decide +kernel
theorem dX6_root_13 : decode cX6_root 13 = .ok (.iload_n 1, 1) := by decide +kernel
theorem dX6_root_14 : decode cX6_root 14 = .ok (.invokevirtual 136, 3) := by decide +kernel
theorem dX6_root_17 : decode cX6_root 17 = .ok (.astore_n 2, 1) := by decide +kernel
theorem dX6_root_18 : decode cX6_root 18 = .ok (.aload_n 2, 1) := by decide +kernel
theorem dX6_root_19 : decode cX6_root 19 = .ok (.ifnonnull 8, 3) := by decide +kernel
theorem dX6_root_22 : decode cX6_root 22 = .ok (.bipush (-5), 2) := by decide +kernel
theorem dX6_root_24 : decode cX6_root 24 = .ok (.goto 7, 3) := by decide +kernel
theorem dX6_root_27 : decode cX6_root 27 = .ok (.aload_n 2, 1) := by decide +kernel
theorem dX6_root_28 : decode cX6_root 28 = .ok (.invokevirtual 155, 3) := by decide +kernel
theorem dX6_root_31 : decode cX6_root 31 = .ok (.ireturn, 1) := by decide +kernel
theorem dX6_blamed_0 : decode cX6_blamed 0 = .ok (.iload_n 1, 1) := by decide +kernel
theorem dX6_blamed_1 : decode cX6_blamed 1 = .ok (.invokestatic 130, 3) := by decide +kernel
theorem dX6_blamed_4 : decode cX6_blamed 4 = .ok (.ifCond .eq 14, 3) := by decide +kernel
theorem dX6_blamed_7 : decode cX6_blamed 7 = .ok (.aload_n 0, 1) := by decide +kernel
theorem dX6_blamed_8 : decode cX6_blamed 8 = .ok (.getfield 25, 3) := by decide +kernel
theorem dX6_blamed_11 : decode cX6_blamed 11 = .ok (.iload_n 1, 1) := by decide +kernel
theorem dX6_blamed_12 : decode cX6_blamed 12 = .ok (.invokevirtual 158, 3) := by decide +kernel
theorem dX6_blamed_15 : decode cX6_blamed 15 = .ok (.goto 4, 3) := by decide +kernel
theorem dX6_blamed_18 : decode cX6_blamed 18 = .ok (.iconst (-1), 1) := by decide +kernel
theorem dX6_blamed_19 : decode cX6_blamed 19 = .ok (.ireturn, 1) := by decide +kernel
theorem dX6_trace_0 : decode cX6_trace 0 = .ok (.aload_n 0, 1) := by decide +kernel
theorem dX6_trace_1 : decode cX6_trace 1 = .ok (.getfield 25, 3) := by decide +kernel
theorem dX6_trace_4 : decode cX6_trace 4 = .ok (.iload_n 1, 1) := by decide +kernel
theorem dX6_trace_5 : decode cX6_trace 5 = .ok (.invokevirtual 82, 3) := by decide +kernel
theorem dX6_trace_8 : decode cX6_trace 8 = .ok (.astore_n 3, 1) := by decide +kernel
theorem dX6_trace_9 : decode cX6_trace 9 = .ok (.aload_n 3, 1) := by decide +kernel
theorem dX6_trace_10 : decode cX6_trace 10 = .ok (.ifnull 8, 3) := by decide +kernel
theorem dX6_trace_13 : decode cX6_trace 13 = .ok (.iload_n 2, 1) := by decide +kernel
theorem dX6_trace_14 : decode cX6_trace 14 = .ok (.iconst (-1), 1) := by decide +kernel
theorem dX6_trace_15 : decode cX6_trace 15 = .ok (.if_icmp .ge 5, 3) := by decide +kernel
theorem dX6_trace_18 : decode cX6_trace 18 = .ok (.iconst (-1), 1) := by decide +kernel
theorem dX6_trace_19 : decode cX6_trace 19 = .ok (.ireturn, 1) := by decide +kernel
theorem dX6_trace_20 : decode cX6_trace 20 = .ok (.aload_n 3, 1) := by decide +kernel
theorem dX6_trace_21 : decode cX6_trace 21 = .ok (.invokevirtual 161, 3) := by decide +kernel
theorem dX6_trace_24 : decode cX6_trace 24 = .ok (.ifCond .ne 6, 3) := by decide +kernel
theorem dX6_trace_27 : decode cX6_trace 27 = .ok (.bipush (-3), 2) := by decide +kernel
theorem dX6_trace_29 : decode cX6_trace 29 = .ok (.ireturn, 1) := by decide +kernel
theorem dX6_trace_30 : decode cX6_trace 30 = .ok (.iload_n 2, 1) := by decide +kernel
theorem dX6_trace_31 : decode cX6_trace 31 = .ok (.iconst (-1), 1) := by decide +kernel
theorem dX6_trace_32 : decode cX6_trace 32 = .ok (.if_icmp .ne 10, 3) := by decide +kernel
theorem dX6_trace_35 : decode cX6_trace 35 = .ok (.aload_n 3, 1) := by decide +kernel
theorem dX6_trace_36 : decode cX6_trace 36 = .ok (.getfield 165, 3) := by decide +kernel
theorem dX6_trace_39 : decode cX6_trace 39 = .ok (.goto 8, 3) := by decide +kernel
theorem dX6_trace_42 : decode cX6_trace 42 = .ok (.aload_n 3, 1) := by decide +kernel
theorem dX6_trace_43 : decode cX6_trace 43 = .ok (.iload_n 2, 1) := by decide +kernel
theorem dX6_trace_44 : decode cX6_trace 44 = .ok (.invokevirtual 168, 3) := by decide +kernel
theorem dX6_trace_47 : decode cX6_trace 47 = .ok (.ireturn, 1) := by decide +kernel
theorem dX6_seen_0 : decode cX6_seen 0 = .ok (.aload_n 0, 1) := by decide +kernel
theorem dX6_seen_1 : decode cX6_seen 1 = .ok (.getfield 25, 3) := by decide +kernel
theorem dX6_seen_4 : decode cX6_seen 4 = .ok (.iload_n 1, 1) := by decide +kernel
theorem dX6_seen_5 : decode cX6_seen 5 = .ok (.invokevirtual 82, 3) := by decide +kernel
theorem dX6_seen_8 : decode cX6_seen 8 = .ok (.astore_n 3, 1) := by decide +kernel
theorem dX6_seen_9 : decode cX6_seen 9 = .ok (.aload_n 3, 1) := by decide +kernel
theorem dX6_seen_10 : decode cX6_seen 10 = .ok (.ifnull 7, 3) := by decide +kernel
theorem dX6_seen_13 : decode cX6_seen 13 = .ok (.iload_n 2, 1) := by decide +kernel
theorem dX6_seen_14 : decode cX6_seen 14 = .ok (.ifCond .ge 5, 3) := by decide +kernel
theorem dX6_seen_17 : decode cX6_seen 17 = .ok (.iconst (-1), 1) := by decide +kernel
theorem dX6_seen_18 : decode cX6_seen 18 = .ok (.ireturn, 1) := by decide +kernel
theorem dX6_seen_19 : decode cX6_seen 19 = .ok (.aload_n 3, 1) := by decide +kernel
theorem dX6_seen_20 : decode cX6_seen 20 = .ok (.invokevirtual 161, 3) := by decide +kernel
theorem dX6_seen_23 : decode cX6_seen 23 = .ok (.ifCond .ne 6, 3) := by decide +kernel
theorem dX6_seen_26 : decode cX6_seen 26 = .ok (.bipush (-3), 2) := by decide +kernel
theorem dX6_seen_28 : decode cX6_seen 28 = .ok (.ireturn, 1) := by decide +kernel
theorem dX6_seen_29 : decode cX6_seen 29 = .ok (.aload_n 3, 1) := by decide +kernel
theorem dX6_seen_30 : decode cX6_seen 30 = .ok (.iload_n 2, 1) := by decide +kernel
theorem dX6_seen_31 : decode cX6_seen 31 = .ok (.invokevirtual 171, 3) := by decide +kernel
theorem dX6_seen_34 : decode cX6_seen 34 = .ok (.astore 4, 2) := by decide +kernel
theorem dX6_seen_36 : decode cX6_seen 36 = .ok (.aload 4, 2) := by decide +kernel
theorem dX6_seen_38 : decode cX6_seen 38 = .ok (.ifnonnull 7, 3) := by decide +kernel
theorem dX6_seen_41 : decode cX6_seen 41 = .ok (.iconst (-1), 1) := by decide +kernel
theorem dX6_seen_42 : decode cX6_seen 42 = .ok (.goto 8, 3) := by decide +kernel
theorem dX6_seen_45 : decode cX6_seen 45 = .ok (.aload 4, 2) := by decide +kernel
theorem dX6_seen_47 : decode cX6_seen 47 = .ok (.invokevirtual 174, 3) := by decide +kernel
theorem dX6_seen_50 : decode cX6_seen 50 = .ok (.ireturn, 1) := by decide +kernel
theorem dX6_users_0 : decode cX6_users 0 = .ok (.iload_n 1, 1) := by decide +kernel
theorem dX6_users_1 : decode cX6_users 1 = .ok (.invokestatic 130, 3) := by decide +kernel
theorem dX6_users_4 : decode cX6_users 4 = .ok (.ifCond .eq 14, 3) := by decide +kernel
theorem dX6_users_7 : decode cX6_users 7 = .ok (.aload_n 0, 1) := by decide +kernel
theorem dX6_users_8 : decode cX6_users 8 = .ok (.getfield 25, 3) := by decide +kernel
theorem dX6_users_11 : decode cX6_users 11 = .ok (.iload_n 1, 1) := by decide +kernel
theorem dX6_users_12 : decode cX6_users 12 = .ok (.invokevirtual 177, 3) := by decide +kernel
theorem dX6_users_15 : decode cX6_users 15 = .ok (.goto 4, 3) := by decide +kernel
theorem dX6_users_18 : decode cX6_users 18 = .ok (.iconst (-1), 1) := by decide +kernel
theorem dX6_users_19 : decode cX6_users 19 = .ok (.ireturn, 1) := by decide +kernel
theorem dX6_depth_0 : decode cX6_depth 0 = .ok (.iload_n 1, 1) := by decide +kernel
theorem dX6_depth_1 : decode cX6_depth 1 = .ok (.invokestatic 130, 3) := by decide +kernel
theorem dX6_depth_4 : decode cX6_depth 4 = .ok (.ifCond .eq 14, 3) := by decide +kernel
theorem dX6_depth_7 : decode cX6_depth 7 = .ok (.aload_n 0, 1) := by decide +kernel
theorem dX6_depth_8 : decode cX6_depth 8 = .ok (.getfield 25, 3) := by decide +kernel
theorem dX6_depth_11 : decode cX6_depth 11 = .ok (.iload_n 1, 1) := by decide +kernel
theorem dX6_depth_12 : decode cX6_depth 12 = .ok (.invokevirtual 180, 3) := by decide +kernel
theorem dX6_depth_15 : decode cX6_depth 15 = .ok (.goto 4, 3) := by decide +kernel
theorem dX6_depth_18 : decode cX6_depth 18 = .ok (.iconst (-1), 1) := by decide +kernel
theorem dX6_depth_19 : decode cX6_depth 19 = .ok (.ireturn, 1) := by decide +kernel
theorem dX6_order_0 : decode cX6_order 0 = .ok (.iload_n 1, 1) := by decide +kernel
theorem dX6_order_1 : decode cX6_order 1 = .ok (.ifCond .ge 7, 3) := by decide +kernel
theorem dX6_order_4 : decode cX6_order 4 = .ok (.iconst (-1), 1) := by decide +kernel
theorem dX6_order_5 : decode cX6_order 5 = .ok (.goto 11, 3) := by decide +kernel
theorem dX6_order_8 : decode cX6_order 8 = .ok (.aload_n 0, 1) := by decide +kernel
theorem dX6_order_9 : decode cX6_order 9 = .ok (.getfield 14, 3) := by decide +kernel
theorem dX6_order_12 : decode cX6_order 12 = .ok (.iload_n 1, 1) := by decide +kernel
theorem dX6_order_13 : decode cX6_order 13 = .ok (.invokevirtual 183, 3) := by decide +kernel
theorem dX6_order_16 : decode cX6_order 16 = .ok (.ireturn, 1) := by decide +kernel
theorem dX6_unlike_0 : decode cX6_unlike 0 = .ok (.aload_n 0, 1) := by decide +kernel
theorem dX6_unlike_1 : decode cX6_unlike 1 = .ok (.getfield 25, 3) := by decide +kernel
theorem dX6_unlike_4 : decode cX6_unlike 4 = .ok (.invokevirtual 186, 3) := by decide +kernel
theorem dX6_unlike_7 : decode cX6_unlike 7 = .ok (.ireturn, 1) := by decide +kernel
theorem dX6_fresh_0 : decode cX6_fresh 0 = .ok (.aload_n 0, 1) := by decide +kernel
theorem dX6_fresh_1 : decode cX6_fresh 1 = .ok (.getfield 25, 3) := by decide +kernel
theorem dX6_fresh_4 : decode cX6_fresh 4 = .ok (.invokevirtual 189, 3) := by decide +kernel
theorem dX6_fresh_7 : decode cX6_fresh 7 = .ok (.ireturn, 1) := by decide +kernel
theorem dX6_forget_0 : decode cX6_forget 0 = .ok (.aload_n 0, 1) := by decide +kernel
theorem dX6_forget_1 : decode cX6_forget 1 = .ok (.getfield 25, 3) := by decide +kernel
theorem dX6_forget_4 : decode cX6_forget 4 = .ok (.iload_n 1, 1) := by decide +kernel
theorem dX6_forget_5 : decode cX6_forget 5 = .ok (.invokevirtual 82, 3) := by decide +kernel
theorem dX6_forget_8 : decode cX6_forget 8 = .ok (.astore_n 2, 1) := by decide +kernel
theorem dX6_forget_9 : decode cX6_forget 9 = .ok (.aload_n 2, 1) := by decide +kernel
theorem dX6_forget_10 : decode cX6_forget 10 = .ok (.ifnonnull 5, 3) := by decide +kernel
theorem dX6_forget_13 : decode cX6_forget 13 = .ok (.iconst (-1), 1) := by decide +kernel
theorem dX6_forget_14 : decode cX6_forget 14 = .ok (.ireturn, 1) := by decide +kernel
theorem dX6_forget_15 : decode cX6_forget 15 = .ok (.aload_n 2, 1) := by decide +kernel
theorem dX6_forget_16 : decode cX6_forget 16 = .ok (.getfield 192, 3) := by decide +kernel
theorem dX6_forget_19 : decode cX6_forget 19 = .ok (.ifnonnull 10, 3) := by decide +kernel
theorem dX6_forget_22 : decode cX6_forget 22 = .ok (.aload_n 2, 1) := by decide +kernel
theorem dX6_forget_23 : decode cX6_forget 23 = .ok (.invokevirtual 161, 3) := by decide +kernel
theorem dX6_forget_26 : decode cX6_forget 26 = .ok (.ifCond .eq 7, 3) := by decide +kernel
theorem dX6_forget_29 : decode cX6_forget 29 = .ok (.iconst 1, 1) := by decide +kernel
theorem dX6_forget_30 : decode cX6_forget 30 = .ok (.goto 4, 3) := by decide +kernel
theorem dX6_forget_33 : decode cX6_forget 33 = .ok (.iconst 0, 1) := by decide +kernel
theorem dX6_forget_34 : decode cX6_forget 34 = .ok (.istore_n 3, 1) := by decide +kernel
theorem dX6_forget_35 : decode cX6_forget 35 = .ok (.aload_n 2, 1) := by decide +kernel
theorem dX6_forget_36 : decode cX6_forget 36 = .ok (.aconst_null, 1) := by decide +kernel
theorem dX6_forget_37 : decode cX6_forget 37 = .ok (.putfield 192, 3) := by decide +kernel
theorem dX6_forget_40 : decode cX6_forget 40 = .ok (.aload_n 2, 1) := by decide +kernel
theorem dX6_forget_41 : decode cX6_forget 41 = .ok (.invokevirtual 195, 3) := by decide +kernel
theorem dX6_forget_44 : decode cX6_forget 44 = .ok (.iload_n 3, 1) := by decide +kernel
theorem dX6_forget_45 : decode cX6_forget 45 = .ok (.ifCond .eq 7, 3) := by decide +kernel
theorem dX6_forget_48 : decode cX6_forget 48 = .ok (.iconst 1, 1) := by decide +kernel
theorem dX6_forget_49 : decode cX6_forget 49 = .ok (.goto 4, 3) := by decide +kernel
theorem dX6_forget_52 : decode cX6_forget 52 = .ok (.iconst 0, 1) := by decide +kernel
theorem dX6_forget_53 : decode cX6_forget 53 = .ok (.ireturn, 1) := by decide +kernel
theorem dX6_told_0 : decode cX6_told 0 = .ok (.iload_n 1, 1) := by decide +kernel
theorem dX6_told_1 : decode cX6_told 1 = .ok (.tableswitch 147 0 10 #[59, 67, 75, 83, 91, 99, 107, 115, 123, 131, 139], 59) := by decide +kernel
theorem dX6_told_60 : decode cX6_told 60 = .ok (.aload_n 0, 1) := by decide +kernel
theorem dX6_told_61 : decode cX6_told 61 = .ok (.getfield 14, 3) := by decide +kernel
theorem dX6_told_64 : decode cX6_told 64 = .ok (.getfield 198, 3) := by decide +kernel
theorem dX6_told_67 : decode cX6_told 67 = .ok (.ireturn, 1) := by decide +kernel
theorem dX6_told_68 : decode cX6_told 68 = .ok (.aload_n 0, 1) := by decide +kernel
theorem dX6_told_69 : decode cX6_told 69 = .ok (.getfield 14, 3) := by decide +kernel
theorem dX6_told_72 : decode cX6_told 72 = .ok (.getfield 201, 3) := by decide +kernel
theorem dX6_told_75 : decode cX6_told 75 = .ok (.ireturn, 1) := by decide +kernel
theorem dX6_told_76 : decode cX6_told 76 = .ok (.aload_n 0, 1) := by decide +kernel
theorem dX6_told_77 : decode cX6_told 77 = .ok (.getfield 14, 3) := by decide +kernel
theorem dX6_told_80 : decode cX6_told 80 = .ok (.getfield 204, 3) := by decide +kernel
theorem dX6_told_83 : decode cX6_told 83 = .ok (.ireturn, 1) := by decide +kernel
theorem dX6_told_84 : decode cX6_told 84 = .ok (.aload_n 0, 1) := by decide +kernel
theorem dX6_told_85 : decode cX6_told 85 = .ok (.getfield 14, 3) := by decide +kernel
theorem dX6_told_88 : decode cX6_told 88 = .ok (.getfield 207, 3) := by decide +kernel
theorem dX6_told_91 : decode cX6_told 91 = .ok (.ireturn, 1) := by decide +kernel
theorem dX6_told_92 : decode cX6_told 92 = .ok (.aload_n 0, 1) := by decide +kernel
theorem dX6_told_93 : decode cX6_told 93 = .ok (.getfield 25, 3) := by decide +kernel
theorem dX6_told_96 : decode cX6_told 96 = .ok (.invokevirtual 210, 3) := by decide +kernel
theorem dX6_told_99 : decode cX6_told 99 = .ok (.ireturn, 1) := by decide +kernel
theorem dX6_told_100 : decode cX6_told 100 = .ok (.aload_n 0, 1) := by decide +kernel
theorem dX6_told_101 : decode cX6_told 101 = .ok (.getfield 25, 3) := by decide +kernel
theorem dX6_told_104 : decode cX6_told 104 = .ok (.invokevirtual 213, 3) := by decide +kernel
theorem dX6_told_107 : decode cX6_told 107 = .ok (.ireturn, 1) := by decide +kernel
theorem dX6_told_108 : decode cX6_told 108 = .ok (.aload_n 0, 1) := by decide +kernel
theorem dX6_told_109 : decode cX6_told 109 = .ok (.getfield 25, 3) := by decide +kernel
theorem dX6_told_112 : decode cX6_told 112 = .ok (.invokevirtual 216, 3) := by decide +kernel
theorem dX6_told_115 : decode cX6_told 115 = .ok (.ireturn, 1) := by decide +kernel
theorem dX6_told_116 : decode cX6_told 116 = .ok (.aload_n 0, 1) := by decide +kernel
theorem dX6_told_117 : decode cX6_told 117 = .ok (.getfield 25, 3) := by decide +kernel
theorem dX6_told_120 : decode cX6_told 120 = .ok (.invokevirtual 219, 3) := by decide +kernel
theorem dX6_told_123 : decode cX6_told 123 = .ok (.ireturn, 1) := by decide +kernel
theorem dX6_told_124 : decode cX6_told 124 = .ok (.aload_n 0, 1) := by decide +kernel
theorem dX6_told_125 : decode cX6_told 125 = .ok (.getfield 35, 3) := by decide +kernel
theorem dX6_told_128 : decode cX6_told 128 = .ok (.getfield 75, 3) := by decide +kernel
theorem dX6_told_131 : decode cX6_told 131 = .ok (.ireturn, 1) := by decide +kernel
theorem dX6_told_132 : decode cX6_told 132 = .ok (.aload_n 0, 1) := by decide +kernel
theorem dX6_told_133 : decode cX6_told 133 = .ok (.getfield 14, 3) := by decide +kernel
theorem dX6_told_136 : decode cX6_told 136 = .ok (.getfield 222, 3) := by decide +kernel
theorem dX6_told_139 : decode cX6_told 139 = .ok (.ireturn, 1) := by decide +kernel
theorem dX6_told_140 : decode cX6_told 140 = .ok (.aload_n 0, 1) := by decide +kernel
theorem dX6_told_141 : decode cX6_told 141 = .ok (.getfield 14, 3) := by decide +kernel
theorem dX6_told_144 : decode cX6_told 144 = .ok (.getfield 225, 3) := by decide +kernel
theorem dX6_told_147 : decode cX6_told 147 = .ok (.ireturn, 1) := by decide +kernel
theorem dX6_told_148 : decode cX6_told 148 = .ok (.iconst (-1), 1) := by decide +kernel
theorem dX6_told_149 : decode cX6_told 149 = .ok (.ireturn, 1) := by decide +kernel
theorem dX6_list_0 : decode cX6_list 0 = .ok (.aload_n 0, 1) := by decide +kernel
theorem dX6_list_1 : decode cX6_list 1 = .ok (.iload_n 1, 1) := by decide +kernel
theorem dX6_list_2 : decode cX6_list 2 = .ok (.invokevirtual 228, 3) := by decide +kernel
theorem dX6_list_5 : decode cX6_list 5 = .ok (.astore_n 3, 1) := by decide +kernel
theorem dX6_list_6 : decode cX6_list 6 = .ok (.aload_n 3, 1) := by decide +kernel
theorem dX6_list_7 : decode cX6_list 7 = .ok (.ifnonnull 5, 3) := by decide +kernel
theorem dX6_list_10 : decode cX6_list 10 = .ok (.iconst (-1), 1) := by decide +kernel
theorem dX6_list_11 : decode cX6_list 11 = .ok (.ireturn, 1) := by decide +kernel
theorem dX6_list_12 : decode cX6_list 12 = .ok (.iload_n 2, 1) := by decide +kernel
theorem dX6_list_13 : decode cX6_list 13 = .ok (.bipush 20, 2) := by decide +kernel
theorem dX6_list_15 : decode cX6_list 15 = .ok (.if_icmp .le 6, 3) := by decide +kernel
theorem dX6_list_18 : decode cX6_list 18 = .ok (.bipush (-2), 2) := by decide +kernel
theorem dX6_list_20 : decode cX6_list 20 = .ok (.ireturn, 1) := by decide +kernel
theorem dX6_list_21 : decode cX6_list 21 = .ok (.iload_n 2, 1) := by decide +kernel
theorem dX6_list_22 : decode cX6_list 22 = .ok (.ifCond .ge 6, 3) := by decide +kernel
theorem dX6_list_25 : decode cX6_list 25 = .ok (.bipush (-14), 2) := by decide +kernel
theorem dX6_list_27 : decode cX6_list 27 = .ok (.ireturn, 1) := by decide +kernel
theorem dX6_list_28 : decode cX6_list 28 = .ok (.aload_n 3, 1) := by decide +kernel
theorem dX6_list_29 : decode cX6_list 29 = .ok (.iload_n 2, 1) := by decide +kernel
theorem dX6_list_30 : decode cX6_list 30 = .ok (.invokevirtual 232, 3) := by decide +kernel
theorem dX6_list_33 : decode cX6_list 33 = .ok (.iconst 1, 1) := by decide +kernel
theorem dX6_list_34 : decode cX6_list 34 = .ok (.ireturn, 1) := by decide +kernel
theorem dX6_put_0 : decode cX6_put 0 = .ok (.aload_n 0, 1) := by decide +kernel
theorem dX6_put_1 : decode cX6_put 1 = .ok (.iload_n 1, 1) := by decide +kernel
theorem dX6_put_2 : decode cX6_put 2 = .ok (.invokevirtual 228, 3) := by decide +kernel
theorem dX6_put_5 : decode cX6_put 5 = .ok (.astore 5, 2) := by decide +kernel
theorem dX6_put_7 : decode cX6_put 7 = .ok (.aload 5, 2) := by decide +kernel
theorem dX6_put_9 : decode cX6_put 9 = .ok (.ifnonnull 5, 3) := by decide +kernel
theorem dX6_put_12 : decode cX6_put 12 = .ok (.iconst (-1), 1) := by decide +kernel
theorem dX6_put_13 : decode cX6_put 13 = .ok (.ireturn, 1) := by decide +kernel
theorem dX6_put_14 : decode cX6_put 14 = .ok (.aload 5, 2) := by decide +kernel
theorem dX6_put_16 : decode cX6_put 16 = .ok (.getfield 235, 3) := by decide +kernel
theorem dX6_put_19 : decode cX6_put 19 = .ok (.ifCond .ne 6, 3) := by decide +kernel
theorem dX6_put_22 : decode cX6_put 22 = .ok (.bipush (-11), 2) := by decide +kernel
theorem dX6_put_24 : decode cX6_put 24 = .ok (.ireturn, 1) := by decide +kernel
theorem dX6_put_25 : decode cX6_put 25 = .ok (.aload 5, 2) := by decide +kernel
theorem dX6_put_27 : decode cX6_put 27 = .ok (.iload_n 2, 1) := by decide +kernel
theorem dX6_put_28 : decode cX6_put 28 = .ok (.lload_n 3, 1) := by decide +kernel
theorem dX6_put_29 : decode cX6_put 29 = .ok (.invokevirtual 239, 3) := by decide +kernel
theorem dX6_put_32 : decode cX6_put 32 = .ok (.ifCond .eq 7, 3) := by decide +kernel
theorem dX6_put_35 : decode cX6_put 35 = .ok (.iconst 1, 1) := by decide +kernel
theorem dX6_put_36 : decode cX6_put 36 = .ok (.goto 5, 3) := by decide +kernel
theorem dX6_put_39 : decode cX6_put 39 = .ok (.bipush (-13), 2) := by decide +kernel
theorem dX6_put_41 : decode cX6_put 41 = .ok (.ireturn, 1) := by decide +kernel
theorem dX6_get_0 : decode cX6_get 0 = .ok (.aload_n 0, 1) := by decide +kernel
theorem dX6_get_1 : decode cX6_get 1 = .ok (.iload_n 1, 1) := by decide +kernel
theorem dX6_get_2 : decode cX6_get 2 = .ok (.invokevirtual 228, 3) := by decide +kernel
theorem dX6_get_5 : decode cX6_get 5 = .ok (.astore_n 3, 1) := by decide +kernel
theorem dX6_get_6 : decode cX6_get 6 = .ok (.aload_n 3, 1) := by decide +kernel
theorem dX6_get_7 : decode cX6_get 7 = .ok (.ifnonnull 9, 3) := by decide +kernel
theorem dX6_get_10 : decode cX6_get 10 = .ok (.ldc2_w 243, 3) := by decide +kernel
theorem dX6_get_13 : decode cX6_get 13 = .ok (.goto 8, 3) := by decide +kernel
theorem dX6_get_16 : decode cX6_get 16 = .ok (.aload_n 3, 1) := by decide +kernel
theorem dX6_get_17 : decode cX6_get 17 = .ok (.iload_n 2, 1) := by decide +kernel
theorem dX6_get_18 : decode cX6_get 18 = .ok (.invokevirtual 245, 3) := by decide +kernel
theorem dX6_get_21 : decode cX6_get 21 = .ok (.lreturn, 1) := by decide +kernel
theorem dX6_move_0 : decode cX6_move 0 = .ok (.aload_n 0, 1) := by decide +kernel
theorem dX6_move_1 : decode cX6_move 1 = .ok (.iload_n 1, 1) := by decide +kernel
theorem dX6_move_2 : decode cX6_move 2 = .ok (.invokevirtual 228, 3) := by decide +kernel
theorem dX6_move_5 : decode cX6_move 5 = .ok (.astore 6, 2) := by decide +kernel
theorem dX6_move_7 : decode cX6_move 7 = .ok (.aload_n 0, 1) := by decide +kernel
theorem dX6_move_8 : decode cX6_move 8 = .ok (.iload_n 3, 1) := by decide +kernel
theorem dX6_move_9 : decode cX6_move 9 = .ok (.invokevirtual 228, 3) := by decide +kernel
theorem dX6_move_12 : decode cX6_move 12 = .ok (.astore 7, 2) := by decide +kernel
theorem dX6_move_14 : decode cX6_move 14 = .ok (.aload 6, 2) := by decide +kernel
theorem dX6_move_16 : decode cX6_move 16 = .ok (.ifnull 8, 3) := by decide +kernel
theorem dX6_move_19 : decode cX6_move 19 = .ok (.aload 7, 2) := by decide +kernel
theorem dX6_move_21 : decode cX6_move 21 = .ok (.ifnonnull 5, 3) := by decide +kernel
theorem dX6_move_24 : decode cX6_move 24 = .ok (.iconst (-1), 1) := by decide +kernel
theorem dX6_move_25 : decode cX6_move 25 = .ok (.ireturn, 1) := by decide +kernel
theorem dX6_move_26 : decode cX6_move 26 = .ok (.aload 6, 2) := by decide +kernel
theorem dX6_move_28 : decode cX6_move 28 = .ok (.getfield 235, 3) := by decide +kernel
theorem dX6_move_31 : decode cX6_move 31 = .ok (.ifCond .eq 11, 3) := by decide +kernel
theorem dX6_move_34 : decode cX6_move 34 = .ok (.aload 7, 2) := by decide +kernel
theorem dX6_move_36 : decode cX6_move 36 = .ok (.getfield 235, 3) := by decide +kernel
theorem dX6_move_39 : decode cX6_move 39 = .ok (.ifCond .ne 6, 3) := by decide +kernel
theorem dX6_move_42 : decode cX6_move 42 = .ok (.bipush (-11), 2) := by decide +kernel
theorem dX6_move_44 : decode cX6_move 44 = .ok (.ireturn, 1) := by decide +kernel
theorem dX6_move_45 : decode cX6_move 45 = .ok (.aload 6, 2) := by decide +kernel
theorem dX6_move_47 : decode cX6_move 47 = .ok (.iload_n 2, 1) := by decide +kernel
theorem dX6_move_48 : decode cX6_move 48 = .ok (.iload 5, 2) := by decide +kernel
theorem dX6_move_50 : decode cX6_move 50 = .ok (.invokevirtual 249, 3) := by decide +kernel
theorem dX6_move_53 : decode cX6_move 53 = .ok (.ifCond .eq 15, 3) := by decide +kernel
theorem dX6_move_56 : decode cX6_move 56 = .ok (.aload 7, 2) := by decide +kernel
theorem dX6_move_58 : decode cX6_move 58 = .ok (.iload 4, 2) := by decide +kernel
theorem dX6_move_60 : decode cX6_move 60 = .ok (.iload 5, 2) := by decide +kernel
theorem dX6_move_62 : decode cX6_move 62 = .ok (.invokevirtual 249, 3) := by decide +kernel
theorem dX6_move_65 : decode cX6_move 65 = .ok (.ifCond .ne 6, 3) := by decide +kernel
theorem dX6_move_68 : decode cX6_move 68 = .ok (.bipush (-13), 2) := by decide +kernel
theorem dX6_move_70 : decode cX6_move 70 = .ok (.ireturn, 1) := by decide +kernel
theorem dX6_move_71 : decode cX6_move 71 = .ok (.aload 6, 2) := by decide +kernel
theorem dX6_move_73 : decode cX6_move 73 = .ok (.getfield 252, 3) := by decide +kernel
theorem dX6_move_76 : decode cX6_move 76 = .ok (.iload_n 2, 1) := by decide +kernel
theorem dX6_move_77 : decode cX6_move 77 = .ok (.aload 7, 2) := by decide +kernel
theorem dX6_move_79 : decode cX6_move 79 = .ok (.getfield 252, 3) := by decide +kernel
theorem dX6_move_82 : decode cX6_move 82 = .ok (.iload 4, 2) := by decide +kernel
theorem dX6_move_84 : decode cX6_move 84 = .ok (.iload 5, 2) := by decide +kernel
theorem dX6_move_86 : decode cX6_move 86 = .ok (.invokestatic 256, 3) := by decide +kernel
theorem dX6_move_89 : decode cX6_move 89 = .ok (.iload 5, 2) := by decide +kernel
theorem dX6_move_91 : decode cX6_move 91 = .ok (.ireturn, 1) := by decide +kernel
theorem dX6_lay_0 : decode cX6_lay 0 = .ok (.aload_n 0, 1) := by decide +kernel
theorem dX6_lay_1 : decode cX6_lay 1 = .ok (.iload_n 1, 1) := by decide +kernel
theorem dX6_lay_2 : decode cX6_lay 2 = .ok (.invokevirtual 228, 3) := by decide +kernel
theorem dX6_lay_5 : decode cX6_lay 5 = .ok (.astore_n 3, 1) := by decide +kernel
theorem dX6_lay_6 : decode cX6_lay 6 = .ok (.aload_n 3, 1) := by decide +kernel
theorem dX6_lay_7 : decode cX6_lay 7 = .ok (.ifnonnull 5, 3) := by decide +kernel
theorem dX6_lay_10 : decode cX6_lay 10 = .ok (.iconst (-1), 1) := by decide +kernel
theorem dX6_lay_11 : decode cX6_lay 11 = .ok (.ireturn, 1) := by decide +kernel
theorem dX6_lay_12 : decode cX6_lay 12 = .ok (.aload_n 3, 1) := by decide +kernel
theorem dX6_lay_13 : decode cX6_lay 13 = .ok (.getfield 235, 3) := by decide +kernel
theorem dX6_lay_16 : decode cX6_lay 16 = .ok (.ifCond .ne 6, 3) := by decide +kernel
theorem dX6_lay_19 : decode cX6_lay 19 = .ok (.bipush (-11), 2) := by decide +kernel
theorem dX6_lay_21 : decode cX6_lay 21 = .ok (.ireturn, 1) := by decide +kernel
theorem dX6_lay_22 : decode cX6_lay 22 = .ok (.iconst 0, 1) := by decide +kernel
theorem dX6_lay_23 : decode cX6_lay 23 = .ok (.istore 4, 2) := by decide +kernel
theorem dX6_lay_25 : decode cX6_lay 25 = .ok (.iload 4, 2) := by decide +kernel
theorem dX6_lay_27 : decode cX6_lay 27 = .ok (.bipush 16, 2) := by decide +kernel
theorem dX6_lay_29 : decode cX6_lay 29 = .ok (.if_icmp .ge 36, 3) := by decide +kernel
theorem dX6_lay_32 : decode cX6_lay 32 = .ok (.aload_n 3, 1) := by decide +kernel
theorem dX6_lay_33 : decode cX6_lay 33 = .ok (.iload_n 2, 1) := by decide +kernel
theorem dX6_lay_34 : decode cX6_lay 34 = .ok (.iload 4, 2) := by decide +kernel
theorem dX6_lay_36 : decode cX6_lay 36 = .ok (.iadd, 1) := by decide +kernel
theorem dX6_lay_37 : decode cX6_lay 37 = .ok (.aload_n 0, 1) := by decide +kernel
theorem dX6_lay_38 : decode cX6_lay 38 = .ok (.getfield 25, 3) := by decide +kernel
theorem dX6_lay_41 : decode cX6_lay 41 = .ok (.bipush 8, 2) := by decide +kernel
theorem dX6_lay_43 : decode cX6_lay 43 = .ok (.iload 4, 2) := by decide +kernel
theorem dX6_lay_45 : decode cX6_lay 45 = .ok (.iadd, 1) := by decide +kernel
theorem dX6_lay_46 : decode cX6_lay 46 = .ok (.invokevirtual 133, 3) := by decide +kernel
theorem dX6_lay_49 : decode cX6_lay 49 = .ok (.i2l, 1) := by decide +kernel
theorem dX6_lay_50 : decode cX6_lay 50 = .ok (.invokevirtual 239, 3) := by decide +kernel
theorem dX6_lay_53 : decode cX6_lay 53 = .ok (.ifCond .ne 6, 3) := by decide +kernel
theorem dX6_lay_56 : decode cX6_lay 56 = .ok (.bipush (-13), 2) := by decide +kernel
theorem dX6_lay_58 : decode cX6_lay 58 = .ok (.ireturn, 1) := by decide +kernel
theorem dX6_lay_59 : decode cX6_lay 59 = .ok (.iinc 4 1, 3) := by decide +kernel
theorem dX6_lay_62 : decode cX6_lay 62 = .ok (.goto (-37), 3) := by decide +kernel
theorem dX6_lay_65 : decode cX6_lay 65 = .ok (.bipush 16, 2) := by decide +kernel
theorem dX6_lay_67 : decode cX6_lay 67 = .ok (.ireturn, 1) := by decide +kernel
theorem dX6_judge_0 : decode cX6_judge 0 = .ok (.aload_n 0, 1) := by decide +kernel
theorem dX6_judge_1 : decode cX6_judge 1 = .ok (.iload_n 1, 1) := by decide +kernel
theorem dX6_judge_2 : decode cX6_judge 2 = .ok (.invokevirtual 228, 3) := by decide +kernel
theorem dX6_judge_5 : decode cX6_judge 5 = .ok (.astore_n 3, 1) := by decide +kernel
theorem dX6_judge_6 : decode cX6_judge 6 = .ok (.aload_n 3, 1) := by decide +kernel
theorem dX6_judge_7 : decode cX6_judge 7 = .ok (.ifnonnull 5, 3) := by decide +kernel
theorem dX6_judge_10 : decode cX6_judge 10 = .ok (.iconst (-1), 1) := by decide +kernel
theorem dX6_judge_11 : decode cX6_judge 11 = .ok (.ireturn, 1) := by decide +kernel
theorem dX6_judge_12 : decode cX6_judge 12 = .ok (.aload_n 3, 1) := by decide +kernel
theorem dX6_judge_13 : decode cX6_judge 13 = .ok (.getfield 235, 3) := by decide +kernel
theorem dX6_judge_16 : decode cX6_judge 16 = .ok (.ifCond .ne 6, 3) := by decide +kernel
theorem dX6_judge_19 : decode cX6_judge 19 = .ok (.bipush (-11), 2) := by decide +kernel
theorem dX6_judge_21 : decode cX6_judge 21 = .ok (.ireturn, 1) := by decide +kernel
theorem dX6_judge_22 : decode cX6_judge 22 = .ok (.iconst 0, 1) := by decide +kernel
theorem dX6_judge_23 : decode cX6_judge 23 = .ok (.istore 4, 2) := by decide +kernel
theorem dX6_judge_25 : decode cX6_judge 25 = .ok (.iload 4, 2) := by decide +kernel
theorem dX6_judge_27 : decode cX6_judge 27 = .ok (.bipush 16, 2) := by decide +kernel
theorem dX6_judge_29 : decode cX6_judge 29 = .ok (.if_icmp .ge 54, 3) := by decide +kernel
theorem dX6_judge_32 : decode cX6_judge 32 = .ok (.aload_n 3, 1) := by decide +kernel
theorem dX6_judge_33 : decode cX6_judge 33 = .ok (.iload_n 2, 1) := by decide +kernel
theorem dX6_judge_34 : decode cX6_judge 34 = .ok (.iload 4, 2) := by decide +kernel
theorem dX6_judge_36 : decode cX6_judge 36 = .ok (.iadd, 1) := by decide +kernel
theorem dX6_judge_37 : decode cX6_judge 37 = .ok (.invokevirtual 262, 3) := by decide +kernel
theorem dX6_judge_40 : decode cX6_judge 40 = .ok (.ifCond .ne 9, 3) := by decide +kernel
theorem dX6_judge_43 : decode cX6_judge 43 = .ok (.bipush 100, 2) := by decide +kernel
theorem dX6_judge_45 : decode cX6_judge 45 = .ok (.iload 4, 2) := by decide +kernel
theorem dX6_judge_47 : decode cX6_judge 47 = .ok (.iadd, 1) := by decide +kernel
theorem dX6_judge_48 : decode cX6_judge 48 = .ok (.ireturn, 1) := by decide +kernel
theorem dX6_judge_49 : decode cX6_judge 49 = .ok (.aload_n 3, 1) := by decide +kernel
theorem dX6_judge_50 : decode cX6_judge 50 = .ok (.iload_n 2, 1) := by decide +kernel
theorem dX6_judge_51 : decode cX6_judge 51 = .ok (.iload 4, 2) := by decide +kernel
theorem dX6_judge_53 : decode cX6_judge 53 = .ok (.iadd, 1) := by decide +kernel
theorem dX6_judge_54 : decode cX6_judge 54 = .ok (.invokevirtual 245, 3) := by decide +kernel
theorem dX6_judge_57 : decode cX6_judge 57 = .ok (.aload_n 0, 1) := by decide +kernel
theorem dX6_judge_58 : decode cX6_judge 58 = .ok (.getfield 25, 3) := by decide +kernel
theorem dX6_judge_61 : decode cX6_judge 61 = .ok (.bipush 8, 2) := by decide +kernel
theorem dX6_judge_63 : decode cX6_judge 63 = .ok (.iload 4, 2) := by decide +kernel
theorem dX6_judge_65 : decode cX6_judge 65 = .ok (.iadd, 1) := by decide +kernel
theorem dX6_judge_66 : decode cX6_judge 66 = .ok (.invokevirtual 133, 3) := by decide +kernel
theorem dX6_judge_69 : decode cX6_judge 69 = .ok (.i2l, 1) := by decide +kernel
theorem dX6_judge_70 : decode cX6_judge 70 = .ok (.lcmp, 1) := by decide +kernel
theorem dX6_judge_71 : decode cX6_judge 71 = .ok (.ifCond .eq 6, 3) := by decide +kernel
theorem dX6_judge_74 : decode cX6_judge 74 = .ok (.iload 4, 2) := by decide +kernel
theorem dX6_judge_76 : decode cX6_judge 76 = .ok (.ireturn, 1) := by decide +kernel
theorem dX6_judge_77 : decode cX6_judge 77 = .ok (.iinc 4 1, 3) := by decide +kernel
theorem dX6_judge_80 : decode cX6_judge 80 = .ok (.goto (-55), 3) := by decide +kernel
theorem dX6_judge_83 : decode cX6_judge 83 = .ok (.bipush (-5), 2) := by decide +kernel
theorem dX6_judge_85 : decode cX6_judge 85 = .ok (.ireturn, 1) := by decide +kernel
theorem dX6_image_0 : decode cX6_image 0 = .ok (.aload_n 0, 1) := by decide +kernel
theorem dX6_image_1 : decode cX6_image 1 = .ok (.getfield 29, 3) := by decide +kernel
theorem dX6_image_4 : decode cX6_image 4 = .ok (.aload_n 0, 1) := by decide +kernel
theorem dX6_image_5 : decode cX6_image 5 = .ok (.getfield 25, 3) := by decide +kernel
theorem dX6_image_8 : decode cX6_image 8 = .ok (.invokevirtual 126, 3) := by decide +kernel
theorem dX6_image_11 : decode cX6_image 11 = .ok (.aload_n 0, 1) := by decide +kernel
theorem dX6_image_12 : decode cX6_image 12 = .ok (.iconst 1, 1) := by decide +kernel
theorem dX6_image_13 : decode cX6_image 13 = .ok (.putfield 265, 3) := by decide +kernel
theorem dX6_image_16 : decode cX6_image 16 = .ok (.aload_n 0, 1) := by decide +kernel
theorem dX6_image_17 : decode cX6_image 17 = .ok (.getfield 25, 3) := by decide +kernel
theorem dX6_image_20 : decode cX6_image 20 = .ok (.invokevirtual 213, 3) := by decide +kernel
theorem dX6_image_23 : decode cX6_image 23 = .ok (.ireturn, 1) := by decide +kernel
theorem dX6_undo_0 : decode cX6_undo 0 = .ok (.aload_n 0, 1) := by decide +kernel
theorem dX6_undo_1 : decode cX6_undo 1 = .ok (.getfield 265, 3) := by decide +kernel
theorem dX6_undo_4 : decode cX6_undo 4 = .ok (.ifCond .ne 6, 3) := by decide +kernel
theorem dX6_undo_7 : decode cX6_undo 7 = .ok (.bipush (-3), 2) := by decide +kernel
theorem dX6_undo_9 : decode cX6_undo 9 = .ok (.ireturn, 1) := by decide +kernel
theorem dX6_undo_10 : decode cX6_undo 10 = .ok (.aload_n 0, 1) := by decide +kernel
theorem dX6_undo_11 : decode cX6_undo 11 = .ok (.getfield 25, 3) := by decide +kernel
theorem dX6_undo_14 : decode cX6_undo 14 = .ok (.aload_n 0, 1) := by decide +kernel
theorem dX6_undo_15 : decode cX6_undo 15 = .ok (.getfield 29, 3) := by decide +kernel
theorem dX6_undo_18 : decode cX6_undo 18 = .ok (.invokevirtual 126, 3) := by decide +kernel
theorem dX6_undo_21 : decode cX6_undo 21 = .ok (.aload_n 0, 1) := by decide +kernel
theorem dX6_undo_22 : decode cX6_undo 22 = .ok (.getfield 14, 3) := by decide +kernel
theorem dX6_undo_25 : decode cX6_undo 25 = .ok (.invokevirtual 268, 3) := by decide +kernel
theorem dX6_undo_28 : decode cX6_undo 28 = .ok (.aload_n 0, 1) := by decide +kernel
theorem dX6_undo_29 : decode cX6_undo 29 = .ok (.getfield 25, 3) := by decide +kernel
theorem dX6_undo_32 : decode cX6_undo 32 = .ok (.invokevirtual 213, 3) := by decide +kernel
theorem dX6_undo_35 : decode cX6_undo 35 = .ok (.ireturn, 1) := by decide +kernel
theorem dX6_rowOf_0 : decode cX6_rowOf 0 = .ok (.iload_n 1, 1) := by decide +kernel
theorem dX6_rowOf_1 : decode cX6_rowOf 1 = .ok (.ifCond .lt 17, 3) := by decide +kernel
theorem dX6_rowOf_4 : decode cX6_rowOf 4 = .ok (.iload_n 1, 1) := by decide +kernel
theorem dX6_rowOf_5 : decode cX6_rowOf 5 = .ok (.iconst 4, 1) := by decide +kernel
theorem dX6_rowOf_6 : decode cX6_rowOf 6 = .ok (.if_icmp .ge 12, 3) := by decide +kernel
theorem dX6_rowOf_9 : decode cX6_rowOf 9 = .ok (.aload_n 0, 1) := by decide +kernel
theorem dX6_rowOf_10 : decode cX6_rowOf 10 = .ok (.getfield 41, 3) := by decide +kernel
theorem dX6_rowOf_13 : decode cX6_rowOf 13 = .ok (.iload_n 1, 1) := by decide +kernel
theorem dX6_rowOf_14 : decode cX6_rowOf 14 = .ok (.aaload, 1) := by decide +kernel
theorem dX6_rowOf_15 : decode cX6_rowOf 15 = .ok (.goto 4, 3) := by decide +kernel
theorem dX6_rowOf_18 : decode cX6_rowOf 18 = .ok (.aconst_null, 1) := by decide +kernel
theorem dX6_rowOf_19 : decode cX6_rowOf 19 = .ok (.areturn, 1) := by decide +kernel
theorem dX6_isInput_0 : decode cX6_isInput 0 = .ok (.iload_n 0, 1) := by decide +kernel
theorem dX6_isInput_1 : decode cX6_isInput 1 = .ok (.ifCond .lt 13, 3) := by decide +kernel
theorem dX6_isInput_4 : decode cX6_isInput 4 = .ok (.iload_n 0, 1) := by decide +kernel
theorem dX6_isInput_5 : decode cX6_isInput 5 = .ok (.bipush 8, 2) := by decide +kernel
theorem dX6_isInput_7 : decode cX6_isInput 7 = .ok (.if_icmp .ge 7, 3) := by decide +kernel
theorem dX6_isInput_10 : decode cX6_isInput 10 = .ok (.iconst 1, 1) := by decide +kernel
theorem dX6_isInput_11 : decode cX6_isInput 11 = .ok (.goto 4, 3) := by decide +kernel
theorem dX6_isInput_14 : decode cX6_isInput 14 = .ok (.iconst 0, 1) := by decide +kernel
theorem dX6_isInput_15 : decode cX6_isInput 15 = .ok (.ireturn, 1) := by decide +kernel
theorem dX6_isTarget_0 : decode cX6_isTarget 0 = .ok (.iload_n 0, 1) := by decide +kernel
theorem dX6_isTarget_1 : decode cX6_isTarget 1 = .ok (.bipush 8, 2) := by decide +kernel
theorem dX6_isTarget_3 : decode cX6_isTarget 3 = .ok (.if_icmp .lt 13, 3) := by decide +kernel
theorem dX6_isTarget_6 : decode cX6_isTarget 6 = .ok (.iload_n 0, 1) := by decide +kernel
theorem dX6_isTarget_7 : decode cX6_isTarget 7 = .ok (.bipush 24, 2) := by decide +kernel
theorem dX6_isTarget_9 : decode cX6_isTarget 9 = .ok (.if_icmp .ge 7, 3) := by decide +kernel
theorem dX6_isTarget_12 : decode cX6_isTarget 12 = .ok (.iconst 1, 1) := by decide +kernel
theorem dX6_isTarget_13 : decode cX6_isTarget 13 = .ok (.goto 4, 3) := by decide +kernel
theorem dX6_isTarget_16 : decode cX6_isTarget 16 = .ok (.iconst 0, 1) := by decide +kernel
theorem dX6_isTarget_17 : decode cX6_isTarget 17 = .ok (.ireturn, 1) := by decide +kernel
theorem dX6_isKey_0 : decode cX6_isKey 0 = .ok (.iload_n 0, 1) := by decide +kernel
theorem dX6_isKey_1 : decode cX6_isKey 1 = .ok (.ifCond .lt 13, 3) := by decide +kernel
theorem dX6_isKey_4 : decode cX6_isKey 4 = .ok (.iload_n 0, 1) := by decide +kernel
theorem dX6_isKey_5 : decode cX6_isKey 5 = .ok (.bipush 24, 2) := by decide +kernel
theorem dX6_isKey_7 : decode cX6_isKey 7 = .ok (.if_icmp .ge 7, 3) := by decide +kernel
theorem dX6_isKey_10 : decode cX6_isKey 10 = .ok (.iconst 1, 1) := by decide +kernel
theorem dX6_isKey_11 : decode cX6_isKey 11 = .ok (.goto 4, 3) := by decide +kernel
theorem dX6_isKey_14 : decode cX6_isKey 14 = .ok (.iconst 0, 1) := by decide +kernel
theorem dX6_isKey_15 : decode cX6_isKey 15 = .ok (.ireturn, 1) := by decide +kernel
theorem dX6_isContent_0 : decode cX6_isContent 0 = .ok (.lload_n 0, 1) := by decide +kernel
theorem dX6_isContent_1 : decode cX6_isContent 1 = .ok (.ldc2_w 271, 3) := by decide +kernel
theorem dX6_isContent_4 : decode cX6_isContent 4 = .ok (.lcmp, 1) := by decide +kernel
theorem dX6_isContent_5 : decode cX6_isContent 5 = .ok (.ifCond .lt 15, 3) := by decide +kernel
theorem dX6_isContent_8 : decode cX6_isContent 8 = .ok (.lload_n 0, 1) := by decide +kernel
theorem dX6_isContent_9 : decode cX6_isContent 9 = .ok (.ldc2_w 273, 3) := by decide +kernel
theorem dX6_isContent_12 : decode cX6_isContent 12 = .ok (.lcmp, 1) := by decide +kernel
theorem dX6_isContent_13 : decode cX6_isContent 13 = .ok (.ifCond .gt 7, 3) := by decide +kernel
theorem dX6_isContent_16 : decode cX6_isContent 16 = .ok (.iconst 1, 1) := by decide +kernel
theorem dX6_isContent_17 : decode cX6_isContent 17 = .ok (.goto 4, 3) := by decide +kernel
theorem dX6_isContent_20 : decode cX6_isContent 20 = .ok (.iconst 0, 1) := by decide +kernel
theorem dX6_isContent_21 : decode cX6_isContent 21 = .ok (.ireturn, 1) := by decide +kernel
theorem dX6_isStops_0 : decode cX6_isStops 0 = .ok (.iload_n 0, 1) := by decide +kernel
theorem dX6_isStops_1 : decode cX6_isStops 1 = .ok (.ifCond .eq 8, 3) := by decide +kernel
theorem dX6_isStops_4 : decode cX6_isStops 4 = .ok (.iload_n 0, 1) := by decide +kernel
theorem dX6_isStops_5 : decode cX6_isStops 5 = .ok (.iconst 1, 1) := by decide +kernel
theorem dX6_isStops_6 : decode cX6_isStops 6 = .ok (.if_icmp .ne 7, 3) := by decide +kernel
theorem dX6_isStops_9 : decode cX6_isStops 9 = .ok (.iconst 1, 1) := by decide +kernel
theorem dX6_isStops_10 : decode cX6_isStops 10 = .ok (.goto 4, 3) := by decide +kernel
theorem dX6_isStops_13 : decode cX6_isStops 13 = .ok (.iconst 0, 1) := by decide +kernel
theorem dX6_isStops_14 : decode cX6_isStops 14 = .ok (.ireturn, 1) := by decide +kernel
theorem dX6_asksForKey_0 : decode cX6_asksForKey 0 = .ok (.iload_n 0, 1) := by decide +kernel
theorem dX6_asksForKey_1 : decode cX6_asksForKey 1 = .ok (.bipush 43, 2) := by decide +kernel
theorem dX6_asksForKey_3 : decode cX6_asksForKey 3 = .ok (.if_icmp .eq 27, 3) := by decide +kernel
theorem dX6_asksForKey_6 : decode cX6_asksForKey 6 = .ok (.iload_n 0, 1) := by decide +kernel
theorem dX6_asksForKey_7 : decode cX6_asksForKey 7 = .ok (.bipush 45, 2) := by decide +kernel
theorem dX6_asksForKey_9 : decode cX6_asksForKey 9 = .ok (.if_icmp .eq 21, 3) := by decide +kernel
theorem dX6_asksForKey_12 : decode cX6_asksForKey 12 = .ok (.iload_n 0, 1) := by decide +kernel
theorem dX6_asksForKey_13 : decode cX6_asksForKey 13 = .ok (.bipush 42, 2) := by decide +kernel
theorem dX6_asksForKey_15 : decode cX6_asksForKey 15 = .ok (.if_icmp .eq 15, 3) := by decide +kernel
theorem dX6_asksForKey_18 : decode cX6_asksForKey 18 = .ok (.iload_n 0, 1) := by decide +kernel
theorem dX6_asksForKey_19 : decode cX6_asksForKey 19 = .ok (.bipush 47, 2) := by decide +kernel
theorem dX6_asksForKey_21 : decode cX6_asksForKey 21 = .ok (.if_icmp .eq 9, 3) := by decide +kernel
theorem dX6_asksForKey_24 : decode cX6_asksForKey 24 = .ok (.iload_n 0, 1) := by decide +kernel
theorem dX6_asksForKey_25 : decode cX6_asksForKey 25 = .ok (.bipush 38, 2) := by decide +kernel
theorem dX6_asksForKey_27 : decode cX6_asksForKey 27 = .ok (.if_icmp .ne 7, 3) := by decide +kernel
theorem dX6_asksForKey_30 : decode cX6_asksForKey 30 = .ok (.iconst 1, 1) := by decide +kernel
theorem dX6_asksForKey_31 : decode cX6_asksForKey 31 = .ok (.goto 4, 3) := by decide +kernel
theorem dX6_asksForKey_34 : decode cX6_asksForKey 34 = .ok (.iconst 0, 1) := by decide +kernel
theorem dX6_asksForKey_35 : decode cX6_asksForKey 35 = .ok (.ireturn, 1) := by decide +kernel
theorem dX6_isSign_0 : decode cX6_isSign 0 = .ok (.iload_n 0, 1) := by decide +kernel
theorem dX6_isSign_1 : decode cX6_isSign 1 = .ok (.invokestatic 275, 3) := by decide +kernel
theorem dX6_isSign_4 : decode cX6_isSign 4 = .ok (.ifCond .ne 33, 3) := by decide +kernel
theorem dX6_isSign_7 : decode cX6_isSign 7 = .ok (.iload_n 0, 1) := by decide +kernel
theorem dX6_isSign_8 : decode cX6_isSign 8 = .ok (.bipush 61, 2) := by decide +kernel
theorem dX6_isSign_10 : decode cX6_isSign 10 = .ok (.if_icmp .eq 27, 3) := by decide +kernel
theorem dX6_isSign_13 : decode cX6_isSign 13 = .ok (.iload_n 0, 1) := by decide +kernel
theorem dX6_isSign_14 : decode cX6_isSign 14 = .ok (.bipush 37, 2) := by decide +kernel
theorem dX6_isSign_16 : decode cX6_isSign 16 = .ok (.if_icmp .eq 21, 3) := by decide +kernel
theorem dX6_isSign_19 : decode cX6_isSign 19 = .ok (.iload_n 0, 1) := by decide +kernel
theorem dX6_isSign_20 : decode cX6_isSign 20 = .ok (.bipush 33, 2) := by decide +kernel
theorem dX6_isSign_22 : decode cX6_isSign 22 = .ok (.if_icmp .eq 15, 3) := by decide +kernel
theorem dX6_isSign_25 : decode cX6_isSign 25 = .ok (.iload_n 0, 1) := by decide +kernel
theorem dX6_isSign_26 : decode cX6_isSign 26 = .ok (.bipush 63, 2) := by decide +kernel
theorem dX6_isSign_28 : decode cX6_isSign 28 = .ok (.if_icmp .eq 9, 3) := by decide +kernel
theorem dX6_isSign_31 : decode cX6_isSign 31 = .ok (.iload_n 0, 1) := by decide +kernel
theorem dX6_isSign_32 : decode cX6_isSign 32 = .ok (.bipush 94, 2) := by decide +kernel
theorem dX6_isSign_34 : decode cX6_isSign 34 = .ok (.if_icmp .ne 7, 3) := by decide +kernel
theorem dX6_isSign_37 : decode cX6_isSign 37 = .ok (.iconst 1, 1) := by decide +kernel
theorem dX6_isSign_38 : decode cX6_isSign 38 = .ok (.goto 4, 3) := by decide +kernel
theorem dX6_isSign_41 : decode cX6_isSign 41 = .ok (.iconst 0, 1) := by decide +kernel
theorem dX6_isSign_42 : decode cX6_isSign 42 = .ok (.ireturn, 1) := by decide +kernel
theorem dX6_isFigure_0 : decode cX6_isFigure 0 = .ok (.iload_n 0, 1) := by decide +kernel
theorem dX6_isFigure_1 : decode cX6_isFigure 1 = .ok (.bipush 48, 2) := by decide +kernel
theorem dX6_isFigure_3 : decode cX6_isFigure 3 = .ok (.if_icmp .lt 13, 3) := by decide +kernel
theorem dX6_isFigure_6 : decode cX6_isFigure 6 = .ok (.iload_n 0, 1) := by decide +kernel
theorem dX6_isFigure_7 : decode cX6_isFigure 7 = .ok (.bipush 57, 2) := by decide +kernel
theorem dX6_isFigure_9 : decode cX6_isFigure 9 = .ok (.if_icmp .gt 7, 3) := by decide +kernel
theorem dX6_isFigure_12 : decode cX6_isFigure 12 = .ok (.iconst 1, 1) := by decide +kernel
theorem dX6_isFigure_13 : decode cX6_isFigure 13 = .ok (.goto 4, 3) := by decide +kernel
theorem dX6_isFigure_16 : decode cX6_isFigure 16 = .ok (.iconst 0, 1) := by decide +kernel
theorem dX6_isFigure_17 : decode cX6_isFigure 17 = .ok (.ireturn, 1) := by decide +kernel
end
section
theorem dX7_isIn_0 : decode cX7_isIn 0 = .ok (.lload_n 0, 1) := by decide +kernel
theorem dX7_isIn_1 : decode cX7_isIn 1 = .ok (.lload_n 2, 1) := by decide +kernel
theorem dX7_isIn_2 : decode cX7_isIn 2 = .ok (.lcmp, 1) := by decide +kernel
theorem dX7_isIn_3 : decode cX7_isIn 3 = .ok (.ifCond .lt 14, 3) := by decide +kernel
theorem dX7_isIn_6 : decode cX7_isIn 6 = .ok (.lload_n 0, 1) := by decide +kernel
theorem dX7_isIn_7 : decode cX7_isIn 7 = .ok (.lload 4, 2) := by decide +kernel
theorem dX7_isIn_9 : decode cX7_isIn 9 = .ok (.lcmp, 1) := by decide +kernel
theorem dX7_isIn_10 : decode cX7_isIn 10 = .ok (.ifCond .gt 7, 3) := by decide +kernel
theorem dX7_isIn_13 : decode cX7_isIn 13 = .ok (.iconst 1, 1) := by decide +kernel
theorem dX7_isIn_14 : decode cX7_isIn 14 = .ok (.goto 4, 3) := by decide +kernel
theorem dX7_isIn_17 : decode cX7_isIn 17 = .ok (.iconst 0, 1) := by decide +kernel
theorem dX7_isIn_18 : decode cX7_isIn 18 = .ok (.ireturn, 1) := by decide +kernel
theorem dX7_isInput_0 : decode cX7_isInput 0 = .ok (.iload_n 0, 1) := by decide +kernel
theorem dX7_isInput_1 : decode cX7_isInput 1 = .ok (.i2l, 1) := by decide +kernel
theorem dX7_isInput_2 : decode cX7_isInput 2 = .ok (.lconst 0, 1) := by decide +kernel
theorem dX7_isInput_3 : decode cX7_isInput 3 = .ok (.ldc2_w 5, 3) := by decide +kernel
theorem dX7_isInput_6 : decode cX7_isInput 6 = .ok (.invokestatic 7, 3) := by decide +kernel
theorem dX7_isInput_9 : decode cX7_isInput 9 = .ok (.ireturn, 1) := by decide +kernel
theorem dX7_isTarget_0 : decode cX7_isTarget 0 = .ok (.iload_n 0, 1) := by decide +kernel
theorem dX7_isTarget_1 : decode cX7_isTarget 1 = .ok (.i2l, 1) := by decide +kernel
theorem dX7_isTarget_2 : decode cX7_isTarget 2 = .ok (.ldc2_w 11, 3) := by decide +kernel
theorem dX7_isTarget_5 : decode cX7_isTarget 5 = .ok (.ldc2_w 13, 3) := by decide +kernel
theorem dX7_isTarget_8 : decode cX7_isTarget 8 = .ok (.invokestatic 7, 3) := by decide +kernel
theorem dX7_isTarget_11 : decode cX7_isTarget 11 = .ok (.ireturn, 1) := by decide +kernel
theorem dX7_isKey_0 : decode cX7_isKey 0 = .ok (.iload_n 0, 1) := by decide +kernel
theorem dX7_isKey_1 : decode cX7_isKey 1 = .ok (.i2l, 1) := by decide +kernel
theorem dX7_isKey_2 : decode cX7_isKey 2 = .ok (.lconst 0, 1) := by decide +kernel
theorem dX7_isKey_3 : decode cX7_isKey 3 = .ok (.ldc2_w 13, 3) := by decide +kernel
theorem dX7_isKey_6 : decode cX7_isKey 6 = .ok (.invokestatic 7, 3) := by decide +kernel
theorem dX7_isKey_9 : decode cX7_isKey 9 = .ok (.ireturn, 1) := by decide +kernel
theorem dX7_numberResult_0 : decode cX7_numberResult 0 = .ok (.iload_n 0, 1) := by decide +kernel
theorem dX7_numberResult_1 : decode cX7_numberResult 1 = .ok (.ldc 15, 2) := by decide +kernel
theorem dX7_numberResult_3 : decode cX7_numberResult 3 = .ok (.iadd, 1) := by decide +kernel
theorem dX7_numberResult_4 : decode cX7_numberResult 4 = .ok (.iconst 2, 1) := by decide +kernel
theorem dX7_numberResult_5 : decode cX7_numberResult 5 = .ok (.imul, 1) := by decide +kernel
theorem dX7_numberResult_6 : decode cX7_numberResult 6 = .ok (.ireturn, 1) := by decide +kernel
theorem dX7_fails_0 : decode cX7_fails 0 = .ok (.iconst 0, 1) := by decide +kernel
theorem dX7_fails_1 : decode cX7_fails 1 = .ok (.istore 5, 2) := by decide +kernel
theorem dX7_fails_3 : decode cX7_fails 3 = .ok (.iload 5, 2) := by decide +kernel
theorem dX7_fails_5 : decode cX7_fails 5 = .ok (.aload_n 0, 1) := by decide +kernel
theorem dX7_fails_6 : decode cX7_fails 6 = .ok (.getfield 16, 3) := by decide +kernel
theorem dX7_fails_9 : decode cX7_fails 9 = .ok (.if_icmp .ge 61, 3) := by decide +kernel
theorem dX7_fails_12 : decode cX7_fails 12 = .ok (.aload_n 0, 1) := by decide +kernel
theorem dX7_fails_13 : decode cX7_fails 13 = .ok (.getfield 20, 3) := by decide +kernel
theorem dX7_fails_16 : decode cX7_fails 16 = .ok (.iload 5, 2) := by decide +kernel
theorem dX7_fails_18 : decode cX7_fails 18 = .ok (.iaload, 1) := by decide +kernel
theorem dX7_fails_19 : decode cX7_fails 19 = .ok (.iload_n 1, 1) := by decide +kernel
theorem dX7_fails_20 : decode cX7_fails 20 = .ok (.if_icmp .ne 44, 3) := by decide +kernel
theorem dX7_fails_23 : decode cX7_fails 23 = .ok (.aload_n 0, 1) := by decide +kernel
theorem dX7_fails_24 : decode cX7_fails 24 = .ok (.getfield 24, 3) := by decide +kernel
theorem dX7_fails_27 : decode cX7_fails 27 = .ok (.iload 5, 2) := by decide +kernel
theorem dX7_fails_29 : decode cX7_fails 29 = .ok (.iaload, 1) := by decide +kernel
theorem dX7_fails_30 : decode cX7_fails 30 = .ok (.iload_n 2, 1) := by decide +kernel
theorem dX7_fails_31 : decode cX7_fails 31 = .ok (.if_icmp .ne 33, 3) := by decide +kernel
theorem dX7_fails_34 : decode cX7_fails 34 = .ok (.aload_n 0, 1) := by decide +kernel
theorem dX7_fails_35 : decode cX7_fails 35 = .ok (.getfield 27, 3) := by decide +kernel
theorem dX7_fails_38 : decode cX7_fails 38 = .ok (.iload 5, 2) := by decide +kernel
theorem dX7_fails_40 : decode cX7_fails 40 = .ok (.iaload, 1) := by decide +kernel
theorem dX7_fails_41 : decode cX7_fails 41 = .ok (.iload_n 3, 1) := by decide +kernel
theorem dX7_fails_42 : decode cX7_fails 42 = .ok (.if_icmp .ne 22, 3) := by decide +kernel
theorem dX7_fails_45 : decode cX7_fails 45 = .ok (.aload_n 0, 1) := by decide +kernel
theorem dX7_fails_46 : decode cX7_fails 46 = .ok (.getfield 30, 3) := by decide +kernel
theorem dX7_fails_49 : decode cX7_fails 49 = .ok (.iload 5, 2) := by decide +kernel
theorem dX7_fails_51 : decode cX7_fails 51 = .ok (.iaload, 1) := by decide +kernel
theorem dX7_fails_52 : decode cX7_fails 52 = .ok (.iload 4, 2) := by decide +kernel
theorem dX7_fails_54 : decode cX7_fails 54 = .ok (.if_icmp .ne 10, 3) := by decide +kernel
theorem dX7_fails_57 : decode cX7_fails 57 = .ok (.iconst 2, 1) := by decide +kernel
theorem dX7_fails_58 : decode cX7_fails 58 = .ok (.iload 5, 2) := by decide +kernel
theorem dX7_fails_60 : decode cX7_fails 60 = .ok (.imul, 1) := by decide +kernel
theorem dX7_fails_61 : decode cX7_fails 61 = .ok (.iconst 1, 1) := by decide +kernel
theorem dX7_fails_62 : decode cX7_fails 62 = .ok (.iadd, 1) := by decide +kernel
theorem dX7_fails_63 : decode cX7_fails 63 = .ok (.ireturn, 1) := by decide +kernel
theorem dX7_fails_64 : decode cX7_fails 64 = .ok (.iinc 5 1, 3) := by decide +kernel
theorem dX7_fails_67 : decode cX7_fails 67 = .ok (.goto (-64), 3) := by decide +kernel
theorem dX7_fails_70 : decode cX7_fails 70 = .ok (.aload_n 0, 1) := by decide +kernel
theorem dX7_fails_71 : decode cX7_fails 71 = .ok (.getfield 20, 3) := by decide +kernel
theorem dX7_fails_74 : decode cX7_fails 74 = .ok (.aload_n 0, 1) := by decide +kernel
theorem dX7_fails_75 : decode cX7_fails 75 = .ok (.getfield 16, 3) := by decide +kernel
theorem dX7_fails_78 : decode cX7_fails 78 = .ok (.iload_n 1, 1) := by decide +kernel
theorem dX7_fails_79 : decode cX7_fails 79 = .ok (.iastore, 1) := by decide +kernel
theorem dX7_fails_80 : decode cX7_fails 80 = .ok (.aload_n 0, 1) := by decide +kernel
theorem dX7_fails_81 : decode cX7_fails 81 = .ok (.getfield 24, 3) := by decide +kernel
theorem dX7_fails_84 : decode cX7_fails 84 = .ok (.aload_n 0, 1) := by decide +kernel
theorem dX7_fails_85 : decode cX7_fails 85 = .ok (.getfield 16, 3) := by decide +kernel
theorem dX7_fails_88 : decode cX7_fails 88 = .ok (.iload_n 2, 1) := by decide +kernel
theorem dX7_fails_89 : decode cX7_fails 89 = .ok (.iastore, 1) := by decide +kernel
theorem dX7_fails_90 : decode cX7_fails 90 = .ok (.aload_n 0, 1) := by decide +kernel
theorem dX7_fails_91 : decode cX7_fails 91 = .ok (.getfield 27, 3) := by decide +kernel
theorem dX7_fails_94 : decode cX7_fails 94 = .ok (.aload_n 0, 1) := by decide +kernel
theorem dX7_fails_95 : decode cX7_fails 95 = .ok (.getfield 16, 3) := by decide +kernel
theorem dX7_fails_98 : decode cX7_fails 98 = .ok (.iload_n 3, 1) := by decide +kernel
theorem dX7_fails_99 : decode cX7_fails 99 = .ok (.iastore, 1) := by decide +kernel
theorem dX7_fails_100 : decode cX7_fails 100 = .ok (.aload_n 0, 1) := by decide +kernel
theorem dX7_fails_101 : decode cX7_fails 101 = .ok (.getfield 30, 3) := by decide +kernel
theorem dX7_fails_104 : decode cX7_fails 104 = .ok (.aload_n 0, 1) := by decide +kernel
theorem dX7_fails_105 : decode cX7_fails 105 = .ok (.getfield 16, 3) := by decide +kernel
theorem dX7_fails_108 : decode cX7_fails 108 = .ok (.iload 4, 2) := by decide +kernel
theorem dX7_fails_110 : decode cX7_fails 110 = .ok (.iastore, 1) := by decide +kernel
theorem dX7_fails_111 : decode cX7_fails 111 = .ok (.aload_n 0, 1) := by decide +kernel
theorem dX7_fails_112 : decode cX7_fails 112 = .ok (.dup, 1) := by decide +kernel
theorem dX7_fails_113 : decode cX7_fails 113 = .ok (.getfield 16, 3) := by decide +kernel
theorem dX7_fails_116 : decode cX7_fails 116 = .ok (.iconst 1, 1) := by decide +kernel
theorem dX7_fails_117 : decode cX7_fails 117 = .ok (.iadd, 1) := by decide +kernel
theorem dX7_fails_118 : decode cX7_fails 118 = .ok (.putfield 16, 3) := by decide +kernel
theorem dX7_fails_121 : decode cX7_fails 121 = .ok (.iconst 2, 1) := by decide +kernel
theorem dX7_fails_122 : decode cX7_fails 122 = .ok (.aload_n 0, 1) := by decide +kernel
theorem dX7_fails_123 : decode cX7_fails 123 = .ok (.getfield 16, 3) := by decide +kernel
theorem dX7_fails_126 : decode cX7_fails 126 = .ok (.imul, 1) := by decide +kernel
theorem dX7_fails_127 : decode cX7_fails 127 = .ok (.iconst 1, 1) := by decide +kernel
theorem dX7_fails_128 : decode cX7_fails 128 = .ok (.isub, 1) := by decide +kernel
theorem dX7_fails_129 : decode cX7_fails 129 = .ok (.ireturn, 1) := by decide +kernel
theorem dX7_isFailure_0 : decode cX7_isFailure 0 = .ok (.iload_n 0, 1) := by decide +kernel
theorem dX7_isFailure_1 : decode cX7_isFailure 1 = .ok (.ifCond .lt 14, 3) := by decide +kernel
theorem dX7_isFailure_4 : decode cX7_isFailure 4 = .ok (.iload_n 0, 1) := by decide +kernel
theorem dX7_isFailure_5 : decode cX7_isFailure 5 = .ok (.iconst 2, 1) := by decide +kernel
theorem dX7_isFailure_6 : decode cX7_isFailure 6 = .ok (.irem, 1) := by decide +kernel
theorem dX7_isFailure_7 : decode cX7_isFailure 7 = .ok (.iconst 1, 1) := by decide +kernel
theorem dX7_isFailure_8 : decode cX7_isFailure 8 = .ok (.if_icmp .ne 7, 3) := by decide +kernel
theorem dX7_isFailure_11 : decode cX7_isFailure 11 = .ok (.iconst 1, 1) := by decide +kernel
theorem dX7_isFailure_12 : decode cX7_isFailure 12 = .ok (.goto 4, 3) := by decide +kernel
theorem dX7_isFailure_15 : decode cX7_isFailure 15 = .ok (.iconst 0, 1) := by decide +kernel
theorem dX7_isFailure_16 : decode cX7_isFailure 16 = .ok (.ireturn, 1) := by decide +kernel
theorem dX7_numberOf_0 : decode cX7_numberOf 0 = .ok (.iload_n 0, 1) := by decide +kernel
theorem dX7_numberOf_1 : decode cX7_numberOf 1 = .ok (.iconst 2, 1) := by decide +kernel
theorem dX7_numberOf_2 : decode cX7_numberOf 2 = .ok (.idiv, 1) := by decide +kernel
theorem dX7_numberOf_3 : decode cX7_numberOf 3 = .ok (.ldc 15, 2) := by decide +kernel
theorem dX7_numberOf_5 : decode cX7_numberOf 5 = .ok (.isub, 1) := by decide +kernel
theorem dX7_numberOf_6 : decode cX7_numberOf 6 = .ok (.ireturn, 1) := by decide +kernel
theorem dX7_toldOf_0 : decode cX7_toldOf 0 = .ok (.iload_n 1, 1) := by decide +kernel
theorem dX7_toldOf_1 : decode cX7_toldOf 1 = .ok (.ifCond .ge 8, 3) := by decide +kernel
theorem dX7_toldOf_4 : decode cX7_toldOf 4 = .ok (.ldc 33, 2) := by decide +kernel
theorem dX7_toldOf_6 : decode cX7_toldOf 6 = .ok (.goto 28, 3) := by decide +kernel
theorem dX7_toldOf_9 : decode cX7_toldOf 9 = .ok (.iload_n 1, 1) := by decide +kernel
theorem dX7_toldOf_10 : decode cX7_toldOf 10 = .ok (.invokestatic 34, 3) := by decide +kernel
theorem dX7_toldOf_13 : decode cX7_toldOf 13 = .ok (.ifCond .eq 17, 3) := by decide +kernel
theorem dX7_toldOf_16 : decode cX7_toldOf 16 = .ok (.ldc 33, 2) := by decide +kernel
theorem dX7_toldOf_18 : decode cX7_toldOf 18 = .ok (.aload_n 0, 1) := by decide +kernel
theorem dX7_toldOf_19 : decode cX7_toldOf 19 = .ok (.getfield 24, 3) := by decide +kernel
theorem dX7_toldOf_22 : decode cX7_toldOf 22 = .ok (.iload_n 1, 1) := by decide +kernel
theorem dX7_toldOf_23 : decode cX7_toldOf 23 = .ok (.iconst 2, 1) := by decide +kernel
theorem dX7_toldOf_24 : decode cX7_toldOf 24 = .ok (.idiv, 1) := by decide +kernel
theorem dX7_toldOf_25 : decode cX7_toldOf 25 = .ok (.iaload, 1) := by decide +kernel
theorem dX7_toldOf_26 : decode cX7_toldOf 26 = .ok (.iadd, 1) := by decide +kernel
theorem dX7_toldOf_27 : decode cX7_toldOf 27 = .ok (.goto 7, 3) := by decide +kernel
theorem dX7_toldOf_30 : decode cX7_toldOf 30 = .ok (.iload_n 1, 1) := by decide +kernel
theorem dX7_toldOf_31 : decode cX7_toldOf 31 = .ok (.invokestatic 38, 3) := by decide +kernel
theorem dX7_toldOf_34 : decode cX7_toldOf 34 = .ok (.ireturn, 1) := by decide +kernel
theorem dX7_init_0 : decode cX7_init 0 = .ok (.aload_n 0, 1) := by decide +kernel
theorem dX7_init_1 : decode cX7_init 1 = .ok (.invokespecial 42, 3) := by decide +kernel
theorem dX7_init_4 : decode cX7_init 4 = .ok (.aload_n 0, 1) := by decide +kernel
theorem dX7_init_5 : decode cX7_init 5 = .ok (.sipush 9000, 3) := by decide +kernel
theorem dX7_init_8 : decode cX7_init 8 = .ok (.newarray .int, 2) := by decide +kernel
theorem dX7_init_10 : decode cX7_init 10 = .ok (.putfield 20, 3) := by decide +kernel
theorem dX7_init_13 : decode cX7_init 13 = .ok (.aload_n 0, 1) := by decide +kernel
theorem dX7_init_14 : decode cX7_init 14 = .ok (.sipush 9000, 3) := by decide +kernel
theorem dX7_init_17 : decode cX7_init 17 = .ok (.newarray .int, 2) := by decide +kernel
theorem dX7_init_19 : decode cX7_init 19 = .ok (.putfield 24, 3) := by decide +kernel
theorem dX7_init_22 : decode cX7_init 22 = .ok (.aload_n 0, 1) := by decide +kernel
theorem dX7_init_23 : decode cX7_init 23 = .ok (.sipush 9000, 3) := by decide +kernel
theorem dX7_init_26 : decode cX7_init 26 = .ok (.newarray .int, 2) := by decide +kernel
theorem dX7_init_28 : decode cX7_init 28 = .ok (.putfield 27, 3) := by decide +kernel
theorem dX7_init_31 : decode cX7_init 31 = .ok (.aload_n 0, 1) := by decide +kernel
theorem dX7_init_32 : decode cX7_init 32 = .ok (.sipush 9000, 3) := by decide +kernel
theorem dX7_init_35 : decode cX7_init 35 = .ok (.newarray .int, 2) := by decide +kernel
theorem dX7_init_37 : decode cX7_init 37 = .ok (.putfield 30, 3) := by decide +kernel
theorem dX7_init_40 : decode cX7_init 40 = .ok (.aload_n 0, 1) := by decide +kernel
theorem dX7_init_41 : decode cX7_init 41 = .ok (.sipush 824, 3) := by decide +kernel
theorem dX7_init_44 : decode cX7_init 44 = .ok (.newarray .int, 2) := by decide +kernel
theorem dX7_init_46 : decode cX7_init 46 = .ok (.putfield 48, 3) := by decide +kernel
theorem dX7_init_49 : decode cX7_init 49 = .ok (.aload_n 0, 1) := by decide +kernel
theorem dX7_init_50 : decode cX7_init 50 = .ok (.sipush 824, 3) := by decide +kernel
theorem dX7_init_53 : decode cX7_init 53 = .ok (.newarray .int, 2) := by decide +kernel
theorem dX7_init_55 : decode cX7_init 55 = .ok (.putfield 51, 3) := by decide +kernel
theorem dX7_init_58 : decode cX7_init 58 = .ok (.aload_n 0, 1) := by decide +kernel
theorem dX7_init_59 : decode cX7_init 59 = .ok (.sipush 824, 3) := by decide +kernel
theorem dX7_init_62 : decode cX7_init 62 = .ok (.newarray .int, 2) := by decide +kernel
theorem dX7_init_64 : decode cX7_init 64 = .ok (.putfield 54, 3) := by decide +kernel
theorem dX7_init_67 : decode cX7_init 67 = .ok (.aload_n 0, 1) := by decide +kernel
theorem dX7_init_68 : decode cX7_init 68 = .ok (.bipush 50, 2) := by decide +kernel
theorem dX7_init_70 : decode cX7_init 70 = .ok (.newarray .int, 2) := by decide +kernel
theorem dX7_init_72 : decode cX7_init 72 = .ok (.putfield 57, 3) := by decide +kernel
theorem dX7_init_75 : decode cX7_init 75 = .ok (.aload_n 0, 1) := by decide +kernel
theorem dX7_init_76 : decode cX7_init 76 = .ok (.bipush 24, 2) := by decide +kernel
theorem dX7_init_78 : decode cX7_init 78 = .ok (.newarray .boolean, 2) := by decide +kernel
theorem dX7_init_80 : decode cX7_init 80 = .ok (.putfield 60, 3) := by decide +kernel
theorem dX7_init_83 : decode cX7_init 83 = .ok (.aload_n 0, 1) := by decide +kernel
theorem dX7_init_84 : decode cX7_init 84 = .ok (.bipush 24, 2) := by decide +kernel
theorem dX7_init_86 : decode cX7_init 86 = .ok (.newarray .boolean, 2) := by decide +kernel
theorem dX7_init_88 : decode cX7_init 88 = .ok (.putfield 64, 3) := by decide +kernel
theorem dX7_init_91 : decode cX7_init 91 = .ok (.aload_n 0, 1) := by decide +kernel
theorem dX7_init_92 : decode cX7_init 92 = .ok (.bipush 16, 2) := by decide +kernel
theorem dX7_init_94 : decode cX7_init 94 = .ok (.newarray .int, 2) := by decide +kernel
theorem dX7_init_96 : decode cX7_init 96 = .ok (.putfield 67, 3) := by decide +kernel
theorem dX7_init_99 : decode cX7_init 99 = .ok (.aload_n 0, 1) := by decide +kernel
theorem dX7_init_100 : decode cX7_init 100 = .ok (.bipush (-5), 2) := by decide +kernel
theorem dX7_init_102 : decode cX7_init 102 = .ok (.putfield 70, 3) := by decide +kernel
theorem dX7_init_105 : decode cX7_init 105 = .ok (.aload_n 0, 1) := by decide +kernel
theorem dX7_init_106 : decode cX7_init 106 = .ok (.bipush 12, 2) := by decide +kernel
theorem dX7_init_108 : decode cX7_init 108 = .ok (.newarray .int, 2) := by decide +kernel
theorem dX7_init_110 : decode cX7_init 110 = .ok (.putfield 73, 3) := by decide +kernel
theorem dX7_init_113 : decode cX7_init 113 = .ok (.aload_n 0, 1) := by decide +kernel
theorem dX7_init_114 : decode cX7_init 114 = .ok (.bipush 12, 2) := by decide +kernel
theorem dX7_init_116 : decode cX7_init 116 = .ok (.newarray .int, 2) := by decide +kernel
theorem dX7_init_118 : decode cX7_init 118 = .ok (.putfield 76, 3) := by decide +kernel
theorem dX7_init_121 : decode cX7_init 121 = .ok (.aload_n 0, 1) := by decide +kernel
theorem dX7_init_122 : decode cX7_init 122 = .ok (.bipush 24, 2) := by decide +kernel
theorem dX7_init_124 : decode cX7_init 124 = .ok (.newarray .boolean, 2) := by decide +kernel
theorem dX7_init_126 : decode cX7_init 126 = .ok (.putfield 79, 3) := by decide +kernel
theorem dX7_init_129 : decode cX7_init 129 = .ok (.aload_n 0, 1) := by decide +kernel
theorem dX7_init_130 : decode cX7_init 130 = .ok (.bipush 16, 2) := by decide +kernel
theorem dX7_init_132 : decode cX7_init 132 = .ok (.newarray .int, 2) := by decide +kernel
theorem dX7_init_134 : decode cX7_init 134 = .ok (.putfield 82, 3) := by decide +kernel
theorem dX7_init_137 : decode cX7_init 137 = .ok (.aload_n 0, 1) := by decide +kernel
theorem dX7_init_138 : decode cX7_init 138 = .ok (.bipush 24, 2) := by decide +kernel
theorem dX7_init_140 : decode cX7_init 140 = .ok (.newarray .int, 2) := by decide +kernel
theorem dX7_init_142 : decode cX7_init 142 = .ok (.putfield 85, 3) := by decide +kernel
theorem dX7_init_145 : decode cX7_init 145 = .ok (.aload_n 0, 1) := by decide +kernel
theorem dX7_init_146 : decode cX7_init 146 = .ok (.iconst 4, 1) := by decide +kernel
theorem dX7_init_147 : decode cX7_init 147 = .ok (.newarray .int, 2) := by decide +kernel
theorem dX7_init_149 : decode cX7_init 149 = .ok (.dup, 1) := by decide +kernel
theorem dX7_init_150 : decode cX7_init 150 = .ok (.iconst 0, 1) := by decide +kernel
theorem dX7_init_151 : decode cX7_init 151 = .ok (.iconst (-1), 1) := by decide +kernel
theorem dX7_init_152 : decode cX7_init 152 = .ok (.iastore, 1) := by decide +kernel
theorem dX7_init_153 : decode cX7_init 153 = .ok (.dup, 1) := by decide +kernel
theorem dX7_init_154 : decode cX7_init 154 = .ok (.iconst 1, 1) := by decide +kernel
theorem dX7_init_155 : decode cX7_init 155 = .ok (.iconst (-1), 1) := by decide +kernel
theorem dX7_init_156 : decode cX7_init 156 = .ok (.iastore, 1) := by decide +kernel
theorem dX7_init_157 : decode cX7_init 157 = .ok (.dup, 1) := by decide +kernel
theorem dX7_init_158 : decode cX7_init 158 = .ok (.iconst 2, 1) := by decide +kernel
theorem dX7_init_159 : decode cX7_init 159 = .ok (.iconst (-1), 1) := by decide +kernel
theorem dX7_init_160 : decode cX7_init 160 = .ok (.iastore, 1) := by decide +kernel
theorem dX7_init_161 : decode cX7_init 161 = .ok (.dup, 1) := by decide +kernel
theorem dX7_init_162 : decode cX7_init 162 = .ok (.iconst 3, 1) := by decide +kernel
theorem dX7_init_163 : decode cX7_init 163 = .ok (.iconst (-1), 1) := by decide +kernel
theorem dX7_init_164 : decode cX7_init 164 = .ok (.iastore, 1) := by decide +kernel
theorem dX7_init_165 : decode cX7_init 165 = .ok (.putfield 88, 3) := by decide +kernel
theorem dX7_init_168 : decode cX7_init 168 = .ok (.aload_n 0, 1) := by decide +kernel
theorem dX7_init_169 : decode cX7_init 169 = .ok (.bipush 80, 2) := by decide +kernel
theorem dX7_init_171 : decode cX7_init 171 = .ok (.newarray .long, 2) := by decide +kernel
theorem dX7_init_173 : decode cX7_init 173 = .ok (.putfield 91, 3) := by decide +kernel
theorem dX7_init_176 : decode cX7_init 176 = .ok (.aload_n 0, 1) := by decide +kernel
theorem dX7_init_177 : decode cX7_init 177 = .ok (.bipush 20, 2) := by decide +kernel
theorem dX7_init_179 : decode cX7_init 179 = .ok (.newarray .long, 2) := by decide +kernel
theorem dX7_init_181 : decode cX7_init 181 = .ok (.putfield 95, 3) := by decide +kernel
theorem dX7_init_184 : decode cX7_init 184 = .ok (.iconst 0, 1) := by decide +kernel
theorem dX7_init_185 : decode cX7_init 185 = .ok (.istore_n 1, 1) := by decide +kernel
theorem dX7_init_186 : decode cX7_init 186 = .ok (.iload_n 1, 1) := by decide +kernel
theorem dX7_init_187 : decode cX7_init 187 = .ok (.bipush 8, 2) := by decide +kernel
theorem dX7_init_189 : decode cX7_init 189 = .ok (.if_icmp .ge 16, 3) := by decide +kernel
theorem dX7_init_192 : decode cX7_init 192 = .ok (.aload_n 0, 1) := by decide +kernel
theorem dX7_init_193 : decode cX7_init 193 = .ok (.getfield 48, 3) := by decide +kernel
theorem dX7_init_196 : decode cX7_init 196 = .ok (.iload_n 1, 1) := by decide +kernel
theorem dX7_init_197 : decode cX7_init 197 = .ok (.iconst (-1), 1) := by decide +kernel
theorem dX7_init_198 : decode cX7_init 198 = .ok (.iastore, 1) := by decide +kernel
theorem dX7_init_199 : decode cX7_init 199 = .ok (.iinc 1 1, 3) := by decide +kernel
theorem dX7_init_202 : decode cX7_init 202 = .ok (.goto (-16), 3) := by decide +kernel
theorem dX7_init_205 : decode cX7_init 205 = .ok (.iconst 0, 1) := by decide +kernel
theorem dX7_init_206 : decode cX7_init 206 = .ok (.istore_n 1, 1) := by decide +kernel
theorem dX7_init_207 : decode cX7_init 207 = .ok (.iload_n 1, 1) := by decide +kernel
theorem dX7_init_208 : decode cX7_init 208 = .ok (.bipush 16, 2) := by decide +kernel
theorem dX7_init_210 : decode cX7_init 210 = .ok (.if_icmp .ge 34, 3) := by decide +kernel
theorem dX7_init_213 : decode cX7_init 213 = .ok (.aload_n 0, 1) := by decide +kernel
theorem dX7_init_214 : decode cX7_init 214 = .ok (.getfield 48, 3) := by decide +kernel
theorem dX7_init_217 : decode cX7_init 217 = .ok (.sipush 408, 3) := by decide +kernel
theorem dX7_init_220 : decode cX7_init 220 = .ok (.iload_n 1, 1) := by decide +kernel
theorem dX7_init_221 : decode cX7_init 221 = .ok (.iadd, 1) := by decide +kernel
theorem dX7_init_222 : decode cX7_init 222 = .ok (.iconst (-1), 1) := by decide +kernel
theorem dX7_init_223 : decode cX7_init 223 = .ok (.iastore, 1) := by decide +kernel
theorem dX7_init_224 : decode cX7_init 224 = .ok (.aload_n 0, 1) := by decide +kernel
theorem dX7_init_225 : decode cX7_init 225 = .ok (.getfield 48, 3) := by decide +kernel
theorem dX7_init_228 : decode cX7_init 228 = .ok (.sipush 424, 3) := by decide +kernel
theorem dX7_init_231 : decode cX7_init 231 = .ok (.bipush 25, 2) := by decide +kernel
theorem dX7_init_233 : decode cX7_init 233 = .ok (.iload_n 1, 1) := by decide +kernel
theorem dX7_init_234 : decode cX7_init 234 = .ok (.imul, 1) := by decide +kernel
theorem dX7_init_235 : decode cX7_init 235 = .ok (.iadd, 1) := by decide +kernel
theorem dX7_init_236 : decode cX7_init 236 = .ok (.iconst (-1), 1) := by decide +kernel
theorem dX7_init_237 : decode cX7_init 237 = .ok (.iastore, 1) := by decide +kernel
theorem dX7_init_238 : decode cX7_init 238 = .ok (.iinc 1 1, 3) := by decide +kernel
theorem dX7_init_241 : decode cX7_init 241 = .ok (.goto (-34), 3) := by decide +kernel
theorem dX7_init_244 : decode cX7_init 244 = .ok (.return_, 1) := by decide +kernel
theorem dX7_pours_0 : decode cX7_pours 0 = .ok (.iconst 0, 1) := by decide +kernel
theorem dX7_pours_1 : decode cX7_pours 1 = .ok (.istore_n 2, 1) := by decide +kernel
theorem dX7_pours_2 : decode cX7_pours 2 = .ok (.iload_n 2, 1) := by decide +kernel
theorem dX7_pours_3 : decode cX7_pours 3 = .ok (.sipush 824, 3) := by decide +kernel
theorem dX7_pours_6 : decode cX7_pours 6 = .ok (.if_icmp .ge 15, 3) := by decide +kernel
theorem dX7_pours_9 : decode cX7_pours 9 = .ok (.aload_n 1, 1) := by decide +kernel
theorem dX7_pours_10 : decode cX7_pours 10 = .ok (.iload_n 2, 1) := by decide +kernel
theorem dX7_pours_11 : decode cX7_pours 11 = .ok (.aload_n 0, 1) := by decide +kernel
theorem dX7_pours_12 : decode cX7_pours 12 = .ok (.iload_n 2, 1) := by decide +kernel
theorem dX7_pours_13 : decode cX7_pours 13 = .ok (.iaload, 1) := by decide +kernel
theorem dX7_pours_14 : decode cX7_pours 14 = .ok (.iastore, 1) := by decide +kernel
theorem dX7_pours_15 : decode cX7_pours 15 = .ok (.iinc 2 1, 3) := by decide +kernel
theorem dX7_pours_18 : decode cX7_pours 18 = .ok (.goto (-16), 3) := by decide +kernel
theorem dX7_pours_21 : decode cX7_pours 21 = .ok (.return_, 1) := by decide +kernel
theorem dX7_ruled_0 : decode cX7_ruled 0 = .ok (.aload_n 0, 1) := by decide +kernel
theorem dX7_ruled_1 : decode cX7_ruled 1 = .ok (.getfield 48, 3) := by decide +kernel
theorem dX7_ruled_4 : decode cX7_ruled 4 = .ok (.bipush 8, 2) := by decide +kernel
theorem dX7_ruled_6 : decode cX7_ruled 6 = .ok (.bipush 25, 2) := by decide +kernel
theorem dX7_ruled_8 : decode cX7_ruled 8 = .ok (.iload_n 1, 1) := by decide +kernel
theorem dX7_ruled_9 : decode cX7_ruled 9 = .ok (.bipush 8, 2) := by decide +kernel
theorem dX7_ruled_11 : decode cX7_ruled 11 = .ok (.isub, 1) := by decide +kernel
theorem dX7_ruled_12 : decode cX7_ruled 12 = .ok (.imul, 1) := by decide +kernel
theorem dX7_ruled_13 : decode cX7_ruled 13 = .ok (.iadd, 1) := by decide +kernel
theorem dX7_ruled_14 : decode cX7_ruled 14 = .ok (.iload_n 2, 1) := by decide +kernel
theorem dX7_ruled_15 : decode cX7_ruled 15 = .ok (.iadd, 1) := by decide +kernel
theorem dX7_ruled_16 : decode cX7_ruled 16 = .ok (.iaload, 1) := by decide +kernel
theorem dX7_ruled_17 : decode cX7_ruled 17 = .ok (.ireturn, 1) := by decide +kernel
theorem dX7_traceAt_0 : decode cX7_traceAt 0 = .ok (.sipush 424, 3) := by decide +kernel
theorem dX7_traceAt_3 : decode cX7_traceAt 3 = .ok (.bipush 25, 2) := by decide +kernel
theorem dX7_traceAt_5 : decode cX7_traceAt 5 = .ok (.iload_n 1, 1) := by decide +kernel
theorem dX7_traceAt_6 : decode cX7_traceAt 6 = .ok (.bipush 8, 2) := by decide +kernel
theorem dX7_traceAt_8 : decode cX7_traceAt 8 = .ok (.isub, 1) := by decide +kernel
theorem dX7_traceAt_9 : decode cX7_traceAt 9 = .ok (.imul, 1) := by decide +kernel
theorem dX7_traceAt_10 : decode cX7_traceAt 10 = .ok (.iadd, 1) := by decide +kernel
theorem dX7_traceAt_11 : decode cX7_traceAt 11 = .ok (.ireturn, 1) := by decide +kernel
theorem dX7_traced_0 : decode cX7_traced 0 = .ok (.aload_n 0, 1) := by decide +kernel
theorem dX7_traced_1 : decode cX7_traced 1 = .ok (.getfield 48, 3) := by decide +kernel
theorem dX7_traced_4 : decode cX7_traced 4 = .ok (.aload_n 0, 1) := by decide +kernel
theorem dX7_traced_5 : decode cX7_traced 5 = .ok (.iload_n 1, 1) := by decide +kernel
theorem dX7_traced_6 : decode cX7_traced 6 = .ok (.invokevirtual 98, 3) := by decide +kernel
theorem dX7_traced_9 : decode cX7_traced 9 = .ok (.iaload, 1) := by decide +kernel
theorem dX7_traced_10 : decode cX7_traced 10 = .ok (.ireturn, 1) := by decide +kernel
theorem dX7_has_0 : decode cX7_has 0 = .ok (.iload_n 1, 1) := by decide +kernel
theorem dX7_has_1 : decode cX7_has 1 = .ok (.invokestatic 101, 3) := by decide +kernel
theorem dX7_has_4 : decode cX7_has 4 = .ok (.ifCond .eq 17, 3) := by decide +kernel
theorem dX7_has_7 : decode cX7_has 7 = .ok (.aload_n 0, 1) := by decide +kernel
theorem dX7_has_8 : decode cX7_has 8 = .ok (.getfield 48, 3) := by decide +kernel
theorem dX7_has_11 : decode cX7_has 11 = .ok (.sipush 408, 3) := by decide +kernel
theorem dX7_has_14 : decode cX7_has 14 = .ok (.iload_n 1, 1) := by decide +kernel
theorem dX7_has_15 : decode cX7_has 15 = .ok (.iadd, 1) := by decide +kernel
theorem dX7_has_16 : decode cX7_has 16 = .ok (.bipush 8, 2) := by decide +kernel
theorem dX7_has_18 : decode cX7_has 18 = .ok (.isub, 1) := by decide +kernel
theorem dX7_has_19 : decode cX7_has 19 = .ok (.iaload, 1) := by decide +kernel
theorem dX7_has_20 : decode cX7_has 20 = .ok (.ireturn, 1) := by decide +kernel
theorem dX7_has_21 : decode cX7_has 21 = .ok (.aload_n 0, 1) := by decide +kernel
theorem dX7_has_22 : decode cX7_has 22 = .ok (.getfield 48, 3) := by decide +kernel
theorem dX7_has_25 : decode cX7_has 25 = .ok (.iload_n 1, 1) := by decide +kernel
theorem dX7_has_26 : decode cX7_has 26 = .ok (.iaload, 1) := by decide +kernel
theorem dX7_has_27 : decode cX7_has 27 = .ok (.ifCond .ge 15, 3) := by decide +kernel
theorem dX7_has_30 : decode cX7_has 30 = .ok (.aload_n 0, 1) := by decide +kernel
theorem dX7_has_31 : decode cX7_has 31 = .ok (.iload_n 1, 1) := by decide +kernel
theorem dX7_has_32 : decode cX7_has 32 = .ok (.bipush 6, 2) := by decide +kernel
theorem dX7_has_34 : decode cX7_has 34 = .ok (.iconst (-1), 1) := by decide +kernel
theorem dX7_has_35 : decode cX7_has 35 = .ok (.iconst (-1), 1) := by decide +kernel
theorem dX7_has_36 : decode cX7_has 36 = .ok (.invokevirtual 104, 3) := by decide +kernel
theorem dX7_has_39 : decode cX7_has 39 = .ok (.goto 9, 3) := by decide +kernel
theorem dX7_has_42 : decode cX7_has 42 = .ok (.aload_n 0, 1) := by decide +kernel
theorem dX7_has_43 : decode cX7_has 43 = .ok (.getfield 48, 3) := by decide +kernel
theorem dX7_has_46 : decode cX7_has 46 = .ok (.iload_n 1, 1) := by decide +kernel
theorem dX7_has_47 : decode cX7_has 47 = .ok (.iaload, 1) := by decide +kernel
theorem dX7_has_48 : decode cX7_has 48 = .ok (.ireturn, 1) := by decide +kernel
theorem dX7_give_0 : decode cX7_give 0 = .ok (.iload_n 1, 1) := by decide +kernel
theorem dX7_give_1 : decode cX7_give 1 = .ok (.invokestatic 108, 3) := by decide +kernel
theorem dX7_give_4 : decode cX7_give 4 = .ok (.ifCond .ne 5, 3) := by decide +kernel
theorem dX7_give_7 : decode cX7_give 7 = .ok (.iconst (-1), 1) := by decide +kernel
theorem dX7_give_8 : decode cX7_give 8 = .ok (.ireturn, 1) := by decide +kernel
theorem dX7_give_9 : decode cX7_give 9 = .ok (.iload_n 2, 1) := by decide +kernel
theorem dX7_give_10 : decode cX7_give 10 = .ok (.i2l, 1) := by decide +kernel
theorem dX7_give_11 : decode cX7_give 11 = .ok (.ldc2_w 111, 3) := by decide +kernel
theorem dX7_give_14 : decode cX7_give 14 = .ok (.ldc2_w 113, 3) := by decide +kernel
theorem dX7_give_17 : decode cX7_give 17 = .ok (.invokestatic 7, 3) := by decide +kernel
theorem dX7_give_20 : decode cX7_give 20 = .ok (.ifCond .ne 6, 3) := by decide +kernel
theorem dX7_give_23 : decode cX7_give 23 = .ok (.bipush (-2), 2) := by decide +kernel
theorem dX7_give_25 : decode cX7_give 25 = .ok (.ireturn, 1) := by decide +kernel
theorem dX7_give_26 : decode cX7_give 26 = .ok (.aload_n 0, 1) := by decide +kernel
theorem dX7_give_27 : decode cX7_give 27 = .ok (.getfield 48, 3) := by decide +kernel
theorem dX7_give_30 : decode cX7_give 30 = .ok (.iload_n 1, 1) := by decide +kernel
theorem dX7_give_31 : decode cX7_give 31 = .ok (.iaload, 1) := by decide +kernel
theorem dX7_give_32 : decode cX7_give 32 = .ok (.istore_n 3, 1) := by decide +kernel
theorem dX7_give_33 : decode cX7_give 33 = .ok (.aload_n 0, 1) := by decide +kernel
theorem dX7_give_34 : decode cX7_give 34 = .ok (.getfield 48, 3) := by decide +kernel
theorem dX7_give_37 : decode cX7_give 37 = .ok (.iload_n 1, 1) := by decide +kernel
theorem dX7_give_38 : decode cX7_give 38 = .ok (.iload_n 2, 1) := by decide +kernel
theorem dX7_give_39 : decode cX7_give 39 = .ok (.invokestatic 115, 3) := by decide +kernel
theorem dX7_give_42 : decode cX7_give 42 = .ok (.iastore, 1) := by decide +kernel
theorem dX7_give_43 : decode cX7_give 43 = .ok (.iload_n 3, 1) := by decide +kernel
theorem dX7_give_44 : decode cX7_give 44 = .ok (.aload_n 0, 1) := by decide +kernel
theorem dX7_give_45 : decode cX7_give 45 = .ok (.getfield 48, 3) := by decide +kernel
theorem dX7_give_48 : decode cX7_give 48 = .ok (.iload_n 1, 1) := by decide +kernel
theorem dX7_give_49 : decode cX7_give 49 = .ok (.iaload, 1) := by decide +kernel
theorem dX7_give_50 : decode cX7_give 50 = .ok (.if_icmp .ne 7, 3) := by decide +kernel
theorem dX7_give_53 : decode cX7_give 53 = .ok (.iconst 0, 1) := by decide +kernel
theorem dX7_give_54 : decode cX7_give 54 = .ok (.goto 4, 3) := by decide +kernel
theorem dX7_give_57 : decode cX7_give 57 = .ok (.iconst 1, 1) := by decide +kernel
theorem dX7_give_58 : decode cX7_give 58 = .ok (.ireturn, 1) := by decide +kernel
theorem dX7_take_0 : decode cX7_take 0 = .ok (.iload_n 1, 1) := by decide +kernel
theorem dX7_take_1 : decode cX7_take 1 = .ok (.invokestatic 108, 3) := by decide +kernel
theorem dX7_take_4 : decode cX7_take 4 = .ok (.ifCond .ne 5, 3) := by decide +kernel
theorem dX7_take_7 : decode cX7_take 7 = .ok (.iconst (-1), 1) := by decide +kernel
theorem dX7_take_8 : decode cX7_take 8 = .ok (.ireturn, 1) := by decide +kernel
theorem dX7_take_9 : decode cX7_take 9 = .ok (.aload_n 0, 1) := by decide +kernel
theorem dX7_take_10 : decode cX7_take 10 = .ok (.getfield 48, 3) := by decide +kernel
theorem dX7_take_13 : decode cX7_take 13 = .ok (.iload_n 1, 1) := by decide +kernel
theorem dX7_take_14 : decode cX7_take 14 = .ok (.iaload, 1) := by decide +kernel
theorem dX7_take_15 : decode cX7_take 15 = .ok (.ifCond .ge 6, 3) := by decide +kernel
theorem dX7_take_18 : decode cX7_take 18 = .ok (.bipush (-3), 2) := by decide +kernel
theorem dX7_take_20 : decode cX7_take 20 = .ok (.ireturn, 1) := by decide +kernel
theorem dX7_take_21 : decode cX7_take 21 = .ok (.aload_n 0, 1) := by decide +kernel
theorem dX7_take_22 : decode cX7_take 22 = .ok (.getfield 48, 3) := by decide +kernel
theorem dX7_take_25 : decode cX7_take 25 = .ok (.iload_n 1, 1) := by decide +kernel
theorem dX7_take_26 : decode cX7_take 26 = .ok (.iaload, 1) := by decide +kernel
theorem dX7_take_27 : decode cX7_take 27 = .ok (.invokestatic 38, 3) := by decide +kernel
theorem dX7_take_30 : decode cX7_take 30 = .ok (.istore_n 2, 1) := by decide +kernel
theorem dX7_take_31 : decode cX7_take 31 = .ok (.aload_n 0, 1) := by decide +kernel
theorem dX7_take_32 : decode cX7_take 32 = .ok (.getfield 48, 3) := by decide +kernel
theorem dX7_take_35 : decode cX7_take 35 = .ok (.iload_n 1, 1) := by decide +kernel
theorem dX7_take_36 : decode cX7_take 36 = .ok (.iconst (-1), 1) := by decide +kernel
theorem dX7_take_37 : decode cX7_take 37 = .ok (.iastore, 1) := by decide +kernel
theorem dX7_take_38 : decode cX7_take 38 = .ok (.iload_n 2, 1) := by decide +kernel
theorem dX7_take_39 : decode cX7_take 39 = .ok (.ireturn, 1) := by decide +kernel
theorem dX7_feed_0 : decode cX7_feed 0 = .ok (.iload_n 1, 1) := by decide +kernel
theorem dX7_feed_1 : decode cX7_feed 1 = .ok (.i2l, 1) := by decide +kernel
theorem dX7_feed_2 : decode cX7_feed 2 = .ok (.lconst 1, 1) := by decide +kernel
theorem dX7_feed_3 : decode cX7_feed 3 = .ok (.ldc2_w 118, 3) := by decide +kernel
theorem dX7_feed_6 : decode cX7_feed 6 = .ok (.invokestatic 7, 3) := by decide +kernel
theorem dX7_feed_9 : decode cX7_feed 9 = .ok (.ifCond .ne 6, 3) := by decide +kernel
theorem dX7_feed_12 : decode cX7_feed 12 = .ok (.bipush (-2), 2) := by decide +kernel
theorem dX7_feed_14 : decode cX7_feed 14 = .ok (.ireturn, 1) := by decide +kernel
theorem dX7_feed_15 : decode cX7_feed 15 = .ok (.aload_n 0, 1) := by decide +kernel
theorem dX7_feed_16 : decode cX7_feed 16 = .ok (.getfield 120, 3) := by decide +kernel
theorem dX7_feed_19 : decode cX7_feed 19 = .ok (.bipush 50, 2) := by decide +kernel
theorem dX7_feed_21 : decode cX7_feed 21 = .ok (.if_icmp .ne 6, 3) := by decide +kernel
theorem dX7_feed_24 : decode cX7_feed 24 = .ok (.bipush (-4), 2) := by decide +kernel
theorem dX7_feed_26 : decode cX7_feed 26 = .ok (.ireturn, 1) := by decide +kernel
theorem dX7_feed_27 : decode cX7_feed 27 = .ok (.aload_n 0, 1) := by decide +kernel
theorem dX7_feed_28 : decode cX7_feed 28 = .ok (.getfield 57, 3) := by decide +kernel
theorem dX7_feed_31 : decode cX7_feed 31 = .ok (.aload_n 0, 1) := by decide +kernel
theorem dX7_feed_32 : decode cX7_feed 32 = .ok (.getfield 120, 3) := by decide +kernel
theorem dX7_feed_35 : decode cX7_feed 35 = .ok (.iload_n 1, 1) := by decide +kernel
theorem dX7_feed_36 : decode cX7_feed 36 = .ok (.iastore, 1) := by decide +kernel
theorem dX7_feed_37 : decode cX7_feed 37 = .ok (.aload_n 0, 1) := by decide +kernel
theorem dX7_feed_38 : decode cX7_feed 38 = .ok (.dup, 1) := by decide +kernel
theorem dX7_feed_39 : decode cX7_feed 39 = .ok (.getfield 120, 3) := by decide +kernel
theorem dX7_feed_42 : decode cX7_feed 42 = .ok (.iconst 1, 1) := by decide +kernel
theorem dX7_feed_43 : decode cX7_feed 43 = .ok (.iadd, 1) := by decide +kernel
theorem dX7_feed_44 : decode cX7_feed 44 = .ok (.putfield 120, 3) := by decide +kernel
theorem dX7_feed_47 : decode cX7_feed 47 = .ok (.aload_n 0, 1) := by decide +kernel
theorem dX7_feed_48 : decode cX7_feed 48 = .ok (.getfield 120, 3) := by decide +kernel
theorem dX7_feed_51 : decode cX7_feed 51 = .ok (.ireturn, 1) := by decide +kernel
theorem dX7_clear_0 : decode cX7_clear 0 = .ok (.aload_n 0, 1) := by decide +kernel
theorem dX7_clear_1 : decode cX7_clear 1 = .ok (.getfield 120, 3) := by decide +kernel
theorem dX7_clear_4 : decode cX7_clear 4 = .ok (.istore_n 1, 1) := by decide +kernel
theorem dX7_clear_5 : decode cX7_clear 5 = .ok (.aload_n 0, 1) := by decide +kernel
theorem dX7_clear_6 : decode cX7_clear 6 = .ok (.iconst 0, 1) := by decide +kernel
theorem dX7_clear_7 : decode cX7_clear 7 = .ok (.putfield 120, 3) := by decide +kernel
theorem dX7_clear_10 : decode cX7_clear 10 = .ok (.iload_n 1, 1) := by decide +kernel
theorem dX7_clear_11 : decode cX7_clear 11 = .ok (.ireturn, 1) := by decide +kernel
theorem dX7_isAsking_0 : decode cX7_isAsking 0 = .ok (.iload_n 0, 1) := by decide +kernel
theorem dX7_isAsking_1 : decode cX7_isAsking 1 = .ok (.bipush 43, 2) := by decide +kernel
theorem dX7_isAsking_3 : decode cX7_isAsking 3 = .ok (.if_icmp .eq 27, 3) := by decide +kernel
theorem dX7_isAsking_6 : decode cX7_isAsking 6 = .ok (.iload_n 0, 1) := by decide +kernel
theorem dX7_isAsking_7 : decode cX7_isAsking 7 = .ok (.bipush 45, 2) := by decide +kernel
theorem dX7_isAsking_9 : decode cX7_isAsking 9 = .ok (.if_icmp .eq 21, 3) := by decide +kernel
theorem dX7_isAsking_12 : decode cX7_isAsking 12 = .ok (.iload_n 0, 1) := by decide +kernel
theorem dX7_isAsking_13 : decode cX7_isAsking 13 = .ok (.bipush 42, 2) := by decide +kernel
theorem dX7_isAsking_15 : decode cX7_isAsking 15 = .ok (.if_icmp .eq 15, 3) := by decide +kernel
theorem dX7_isAsking_18 : decode cX7_isAsking 18 = .ok (.iload_n 0, 1) := by decide +kernel
theorem dX7_isAsking_19 : decode cX7_isAsking 19 = .ok (.bipush 47, 2) := by decide +kernel
theorem dX7_isAsking_21 : decode cX7_isAsking 21 = .ok (.if_icmp .eq 9, 3) := by decide +kernel
theorem dX7_isAsking_24 : decode cX7_isAsking 24 = .ok (.iload_n 0, 1) := by decide +kernel
theorem dX7_isAsking_25 : decode cX7_isAsking 25 = .ok (.bipush 38, 2) := by decide +kernel
theorem dX7_isAsking_27 : decode cX7_isAsking 27 = .ok (.if_icmp .ne 7, 3) := by decide +kernel
theorem dX7_isAsking_30 : decode cX7_isAsking 30 = .ok (.iconst 1, 1) := by decide +kernel
theorem dX7_isAsking_31 : decode cX7_isAsking 31 = .ok (.goto 4, 3) := by decide +kernel
theorem dX7_isAsking_34 : decode cX7_isAsking 34 = .ok (.iconst 0, 1) := by decide +kernel
theorem dX7_isAsking_35 : decode cX7_isAsking 35 = .ok (.ireturn, 1) := by decide +kernel
theorem dX7_isSign_0 : decode cX7_isSign 0 = .ok (.iload_n 0, 1) := by decide +kernel
theorem dX7_isSign_1 : decode cX7_isSign 1 = .ok (.invokestatic 123, 3) := by decide +kernel
theorem dX7_isSign_4 : decode cX7_isSign 4 = .ok (.ifCond .ne 33, 3) := by decide +kernel
theorem dX7_isSign_7 : decode cX7_isSign 7 = .ok (.iload_n 0, 1) := by decide +kernel
theorem dX7_isSign_8 : decode cX7_isSign 8 = .ok (.bipush 61, 2) := by decide +kernel
theorem dX7_isSign_10 : decode cX7_isSign 10 = .ok (.if_icmp .eq 27, 3) := by decide +kernel
theorem dX7_isSign_13 : decode cX7_isSign 13 = .ok (.iload_n 0, 1) := by decide +kernel
theorem dX7_isSign_14 : decode cX7_isSign 14 = .ok (.bipush 37, 2) := by decide +kernel
theorem dX7_isSign_16 : decode cX7_isSign 16 = .ok (.if_icmp .eq 21, 3) := by decide +kernel
theorem dX7_isSign_19 : decode cX7_isSign 19 = .ok (.iload_n 0, 1) := by decide +kernel
theorem dX7_isSign_20 : decode cX7_isSign 20 = .ok (.bipush 33, 2) := by decide +kernel
theorem dX7_isSign_22 : decode cX7_isSign 22 = .ok (.if_icmp .eq 15, 3) := by decide +kernel
theorem dX7_isSign_25 : decode cX7_isSign 25 = .ok (.iload_n 0, 1) := by decide +kernel
theorem dX7_isSign_26 : decode cX7_isSign 26 = .ok (.bipush 63, 2) := by decide +kernel
theorem dX7_isSign_28 : decode cX7_isSign 28 = .ok (.if_icmp .eq 9, 3) := by decide +kernel
theorem dX7_isSign_31 : decode cX7_isSign 31 = .ok (.iload_n 0, 1) := by decide +kernel
theorem dX7_isSign_32 : decode cX7_isSign 32 = .ok (.bipush 94, 2) := by decide +kernel
theorem dX7_isSign_34 : decode cX7_isSign 34 = .ok (.if_icmp .ne 7, 3) := by decide +kernel
theorem dX7_isSign_37 : decode cX7_isSign 37 = .ok (.iconst 1, 1) := by decide +kernel
theorem dX7_isSign_38 : decode cX7_isSign 38 = .ok (.goto 4, 3) := by decide +kernel
theorem dX7_isSign_41 : decode cX7_isSign 41 = .ok (.iconst 0, 1) := by decide +kernel
theorem dX7_isSign_42 : decode cX7_isSign 42 = .ok (.ireturn, 1) := by decide +kernel
theorem dX7_isFigure_0 : decode cX7_isFigure 0 = .ok (.iload_n 1, 1) := by decide +kernel
theorem dX7_isFigure_1 : decode cX7_isFigure 1 = .ok (.aload_n 0, 1) := by decide +kernel
theorem dX7_isFigure_2 : decode cX7_isFigure 2 = .ok (.getfield 120, 3) := by decide +kernel
theorem dX7_isFigure_5 : decode cX7_isFigure 5 = .ok (.if_icmp .ge 26, 3) := by decide +kernel
theorem dX7_isFigure_8 : decode cX7_isFigure 8 = .ok (.aload_n 0, 1) := by decide +kernel
theorem dX7_isFigure_9 : decode cX7_isFigure 9 = .ok (.getfield 57, 3) := by decide +kernel
theorem dX7_isFigure_12 : decode cX7_isFigure 12 = .ok (.iload_n 1, 1) := by decide +kernel
theorem dX7_isFigure_13 : decode cX7_isFigure 13 = .ok (.iaload, 1) := by decide +kernel
theorem dX7_isFigure_14 : decode cX7_isFigure 14 = .ok (.i2l, 1) := by decide +kernel
theorem dX7_isFigure_15 : decode cX7_isFigure 15 = .ok (.ldc2_w 126, 3) := by decide +kernel
theorem dX7_isFigure_18 : decode cX7_isFigure 18 = .ok (.ldc2_w 128, 3) := by decide +kernel
theorem dX7_isFigure_21 : decode cX7_isFigure 21 = .ok (.invokestatic 7, 3) := by decide +kernel
theorem dX7_isFigure_24 : decode cX7_isFigure 24 = .ok (.ifCond .eq 7, 3) := by decide +kernel
theorem dX7_isFigure_27 : decode cX7_isFigure 27 = .ok (.iconst 1, 1) := by decide +kernel
theorem dX7_isFigure_28 : decode cX7_isFigure 28 = .ok (.goto 4, 3) := by decide +kernel
theorem dX7_isFigure_31 : decode cX7_isFigure 31 = .ok (.iconst 0, 1) := by decide +kernel
theorem dX7_isFigure_32 : decode cX7_isFigure 32 = .ok (.ireturn, 1) := by decide +kernel
theorem dX7_fault_0 : decode cX7_fault 0 = .ok (.iconst 0, 1) := by decide +kernel
theorem dX7_fault_1 : decode cX7_fault 1 = .ok (.istore_n 1, 1) := by decide +kernel
theorem dX7_fault_2 : decode cX7_fault 2 = .ok (.iconst 0, 1) := by decide +kernel
theorem dX7_fault_3 : decode cX7_fault 3 = .ok (.istore_n 2, 1) := by decide +kernel
theorem dX7_fault_4 : decode cX7_fault 4 = .ok (.iload_n 2, 1) := by decide +kernel
theorem dX7_fault_5 : decode cX7_fault 5 = .ok (.bipush 12, 2) := by decide +kernel
theorem dX7_fault_7 : decode cX7_fault 7 = .ok (.if_icmp .ge 143, 3) := by decide +kernel
theorem dX7_fault_10 : decode cX7_fault 10 = .ok (.iload_n 2, 1) := by decide +kernel
theorem dX7_fault_11 : decode cX7_fault 11 = .ok (.ifCond .eq 11, 3) := by decide +kernel
theorem dX7_fault_14 : decode cX7_fault 14 = .ok (.iload_n 1, 1) := by decide +kernel
theorem dX7_fault_15 : decode cX7_fault 15 = .ok (.aload_n 0, 1) := by decide +kernel
theorem dX7_fault_16 : decode cX7_fault 16 = .ok (.getfield 120, 3) := by decide +kernel
theorem dX7_fault_19 : decode cX7_fault 19 = .ok (.if_icmp .ge 131, 3) := by decide +kernel
theorem dX7_fault_22 : decode cX7_fault 22 = .ok (.iload_n 1, 1) := by decide +kernel
theorem dX7_fault_23 : decode cX7_fault 23 = .ok (.aload_n 0, 1) := by decide +kernel
theorem dX7_fault_24 : decode cX7_fault 24 = .ok (.getfield 120, 3) := by decide +kernel
theorem dX7_fault_27 : decode cX7_fault 27 = .ok (.if_icmp .ge 15, 3) := by decide +kernel
theorem dX7_fault_30 : decode cX7_fault 30 = .ok (.aload_n 0, 1) := by decide +kernel
theorem dX7_fault_31 : decode cX7_fault 31 = .ok (.getfield 57, 3) := by decide +kernel
theorem dX7_fault_34 : decode cX7_fault 34 = .ok (.iload_n 1, 1) := by decide +kernel
theorem dX7_fault_35 : decode cX7_fault 35 = .ok (.iaload, 1) := by decide +kernel
theorem dX7_fault_36 : decode cX7_fault 36 = .ok (.invokestatic 130, 3) := by decide +kernel
theorem dX7_fault_39 : decode cX7_fault 39 = .ok (.ifCond .ne 5, 3) := by decide +kernel
theorem dX7_fault_42 : decode cX7_fault 42 = .ok (.iload_n 1, 1) := by decide +kernel
theorem dX7_fault_43 : decode cX7_fault 43 = .ok (.ireturn, 1) := by decide +kernel
theorem dX7_fault_44 : decode cX7_fault 44 = .ok (.aload_n 0, 1) := by decide +kernel
theorem dX7_fault_45 : decode cX7_fault 45 = .ok (.getfield 57, 3) := by decide +kernel
theorem dX7_fault_48 : decode cX7_fault 48 = .ok (.iload_n 1, 1) := by decide +kernel
theorem dX7_fault_49 : decode cX7_fault 49 = .ok (.iaload, 1) := by decide +kernel
theorem dX7_fault_50 : decode cX7_fault 50 = .ok (.istore_n 3, 1) := by decide +kernel
theorem dX7_fault_51 : decode cX7_fault 51 = .ok (.aload_n 0, 1) := by decide +kernel
theorem dX7_fault_52 : decode cX7_fault 52 = .ok (.iload_n 1, 1) := by decide +kernel
theorem dX7_fault_53 : decode cX7_fault 53 = .ok (.iconst 1, 1) := by decide +kernel
theorem dX7_fault_54 : decode cX7_fault 54 = .ok (.iadd, 1) := by decide +kernel
theorem dX7_fault_55 : decode cX7_fault 55 = .ok (.invokevirtual 133, 3) := by decide +kernel
theorem dX7_fault_58 : decode cX7_fault 58 = .ok (.ifCond .eq 23, 3) := by decide +kernel
theorem dX7_fault_61 : decode cX7_fault 61 = .ok (.iload_n 3, 1) := by decide +kernel
theorem dX7_fault_62 : decode cX7_fault 62 = .ok (.invokestatic 123, 3) := by decide +kernel
theorem dX7_fault_65 : decode cX7_fault 65 = .ok (.ifCond .eq 20, 3) := by decide +kernel
theorem dX7_fault_68 : decode cX7_fault 68 = .ok (.aload_n 0, 1) := by decide +kernel
theorem dX7_fault_69 : decode cX7_fault 69 = .ok (.getfield 57, 3) := by decide +kernel
theorem dX7_fault_72 : decode cX7_fault 72 = .ok (.iload_n 1, 1) := by decide +kernel
theorem dX7_fault_73 : decode cX7_fault 73 = .ok (.iconst 1, 1) := by decide +kernel
theorem dX7_fault_74 : decode cX7_fault 74 = .ok (.iadd, 1) := by decide +kernel
theorem dX7_fault_75 : decode cX7_fault 75 = .ok (.iaload, 1) := by decide +kernel
theorem dX7_fault_76 : decode cX7_fault 76 = .ok (.bipush 50, 2) := by decide +kernel
theorem dX7_fault_78 : decode cX7_fault 78 = .ok (.if_icmp .le 7, 3) := by decide +kernel
theorem dX7_fault_81 : decode cX7_fault 81 = .ok (.iload_n 1, 1) := by decide +kernel
theorem dX7_fault_82 : decode cX7_fault 82 = .ok (.iconst 1, 1) := by decide +kernel
theorem dX7_fault_83 : decode cX7_fault 83 = .ok (.iadd, 1) := by decide +kernel
theorem dX7_fault_84 : decode cX7_fault 84 = .ok (.ireturn, 1) := by decide +kernel
theorem dX7_fault_85 : decode cX7_fault 85 = .ok (.aload_n 0, 1) := by decide +kernel
theorem dX7_fault_86 : decode cX7_fault 86 = .ok (.iload_n 1, 1) := by decide +kernel
theorem dX7_fault_87 : decode cX7_fault 87 = .ok (.iconst 2, 1) := by decide +kernel
theorem dX7_fault_88 : decode cX7_fault 88 = .ok (.iadd, 1) := by decide +kernel
theorem dX7_fault_89 : decode cX7_fault 89 = .ok (.invokevirtual 133, 3) := by decide +kernel
theorem dX7_fault_92 : decode cX7_fault 92 = .ok (.ifCond .ne 7, 3) := by decide +kernel
theorem dX7_fault_95 : decode cX7_fault 95 = .ok (.iload_n 1, 1) := by decide +kernel
theorem dX7_fault_96 : decode cX7_fault 96 = .ok (.iconst 2, 1) := by decide +kernel
theorem dX7_fault_97 : decode cX7_fault 97 = .ok (.iadd, 1) := by decide +kernel
theorem dX7_fault_98 : decode cX7_fault 98 = .ok (.ireturn, 1) := by decide +kernel
theorem dX7_fault_99 : decode cX7_fault 99 = .ok (.iload_n 3, 1) := by decide +kernel
theorem dX7_fault_100 : decode cX7_fault 100 = .ok (.invokestatic 123, 3) := by decide +kernel
theorem dX7_fault_103 : decode cX7_fault 103 = .ok (.ifCond .eq 38, 3) := by decide +kernel
theorem dX7_fault_106 : decode cX7_fault 106 = .ok (.bipush 10, 2) := by decide +kernel
theorem dX7_fault_108 : decode cX7_fault 108 = .ok (.aload_n 0, 1) := by decide +kernel
theorem dX7_fault_109 : decode cX7_fault 109 = .ok (.getfield 57, 3) := by decide +kernel
theorem dX7_fault_112 : decode cX7_fault 112 = .ok (.iload_n 1, 1) := by decide +kernel
theorem dX7_fault_113 : decode cX7_fault 113 = .ok (.iconst 1, 1) := by decide +kernel
theorem dX7_fault_114 : decode cX7_fault 114 = .ok (.iadd, 1) := by decide +kernel
theorem dX7_fault_115 : decode cX7_fault 115 = .ok (.iaload, 1) := by decide +kernel
theorem dX7_fault_116 : decode cX7_fault 116 = .ok (.bipush 48, 2) := by decide +kernel
theorem dX7_fault_118 : decode cX7_fault 118 = .ok (.isub, 1) := by decide +kernel
theorem dX7_fault_119 : decode cX7_fault 119 = .ok (.imul, 1) := by decide +kernel
theorem dX7_fault_120 : decode cX7_fault 120 = .ok (.aload_n 0, 1) := by decide +kernel
theorem dX7_fault_121 : decode cX7_fault 121 = .ok (.getfield 57, 3) := by decide +kernel
theorem dX7_fault_124 : decode cX7_fault 124 = .ok (.iload_n 1, 1) := by decide +kernel
theorem dX7_fault_125 : decode cX7_fault 125 = .ok (.iconst 2, 1) := by decide +kernel
theorem dX7_fault_126 : decode cX7_fault 126 = .ok (.iadd, 1) := by decide +kernel
theorem dX7_fault_127 : decode cX7_fault 127 = .ok (.iaload, 1) := by decide +kernel
theorem dX7_fault_128 : decode cX7_fault 128 = .ok (.iadd, 1) := by decide +kernel
theorem dX7_fault_129 : decode cX7_fault 129 = .ok (.bipush 48, 2) := by decide +kernel
theorem dX7_fault_131 : decode cX7_fault 131 = .ok (.isub, 1) := by decide +kernel
theorem dX7_fault_132 : decode cX7_fault 132 = .ok (.bipush 24, 2) := by decide +kernel
theorem dX7_fault_134 : decode cX7_fault 134 = .ok (.if_icmp .lt 7, 3) := by decide +kernel
theorem dX7_fault_137 : decode cX7_fault 137 = .ok (.iload_n 1, 1) := by decide +kernel
theorem dX7_fault_138 : decode cX7_fault 138 = .ok (.iconst 1, 1) := by decide +kernel
theorem dX7_fault_139 : decode cX7_fault 139 = .ok (.iadd, 1) := by decide +kernel
theorem dX7_fault_140 : decode cX7_fault 140 = .ok (.ireturn, 1) := by decide +kernel
theorem dX7_fault_141 : decode cX7_fault 141 = .ok (.iinc 1 3, 3) := by decide +kernel
theorem dX7_fault_144 : decode cX7_fault 144 = .ok (.iinc 2 1, 3) := by decide +kernel
theorem dX7_fault_147 : decode cX7_fault 147 = .ok (.goto (-143), 3) := by decide +kernel
theorem dX7_fault_150 : decode cX7_fault 150 = .ok (.iload_n 1, 1) := by decide +kernel
theorem dX7_fault_151 : decode cX7_fault 151 = .ok (.aload_n 0, 1) := by decide +kernel
theorem dX7_fault_152 : decode cX7_fault 152 = .ok (.getfield 120, 3) := by decide +kernel
theorem dX7_fault_155 : decode cX7_fault 155 = .ok (.if_icmp .ge 7, 3) := by decide +kernel
theorem dX7_fault_158 : decode cX7_fault 158 = .ok (.iload_n 1, 1) := by decide +kernel
theorem dX7_fault_159 : decode cX7_fault 159 = .ok (.goto 4, 3) := by decide +kernel
theorem dX7_fault_162 : decode cX7_fault 162 = .ok (.iconst (-1), 1) := by decide +kernel
theorem dX7_fault_163 : decode cX7_fault 163 = .ok (.ireturn, 1) := by decide +kernel
theorem dX7_rule_0 : decode cX7_rule 0 = .ok (.iload_n 1, 1) := by decide +kernel
theorem dX7_rule_1 : decode cX7_rule 1 = .ok (.invokestatic 101, 3) := by decide +kernel
theorem dX7_rule_4 : decode cX7_rule 4 = .ok (.ifCond .ne 5, 3) := by decide +kernel
theorem dX7_rule_7 : decode cX7_rule 7 = .ok (.iconst (-1), 1) := by decide +kernel
theorem dX7_rule_8 : decode cX7_rule 8 = .ok (.ireturn, 1) := by decide +kernel
theorem dX7_rule_9 : decode cX7_rule 9 = .ok (.aload_n 0, 1) := by decide +kernel
theorem dX7_rule_10 : decode cX7_rule 10 = .ok (.invokevirtual 136, 3) := by decide +kernel
theorem dX7_rule_13 : decode cX7_rule 13 = .ok (.istore_n 2, 1) := by decide +kernel
theorem dX7_rule_14 : decode cX7_rule 14 = .ok (.aload_n 0, 1) := by decide +kernel
theorem dX7_rule_15 : decode cX7_rule 15 = .ok (.getfield 120, 3) := by decide +kernel
theorem dX7_rule_18 : decode cX7_rule 18 = .ok (.iconst 3, 1) := by decide +kernel
theorem dX7_rule_19 : decode cX7_rule 19 = .ok (.idiv, 1) := by decide +kernel
theorem dX7_rule_20 : decode cX7_rule 20 = .ok (.istore_n 3, 1) := by decide +kernel
theorem dX7_rule_21 : decode cX7_rule 21 = .ok (.aload_n 0, 1) := by decide +kernel
theorem dX7_rule_22 : decode cX7_rule 22 = .ok (.iconst 0, 1) := by decide +kernel
theorem dX7_rule_23 : decode cX7_rule 23 = .ok (.putfield 120, 3) := by decide +kernel
theorem dX7_rule_26 : decode cX7_rule 26 = .ok (.iload_n 2, 1) := by decide +kernel
theorem dX7_rule_27 : decode cX7_rule 27 = .ok (.ifCond .lt 8, 3) := by decide +kernel
theorem dX7_rule_30 : decode cX7_rule 30 = .ok (.bipush (-100), 2) := by decide +kernel
theorem dX7_rule_32 : decode cX7_rule 32 = .ok (.iload_n 2, 1) := by decide +kernel
theorem dX7_rule_33 : decode cX7_rule 33 = .ok (.isub, 1) := by decide +kernel
theorem dX7_rule_34 : decode cX7_rule 34 = .ok (.ireturn, 1) := by decide +kernel
theorem dX7_rule_35 : decode cX7_rule 35 = .ok (.bipush 8, 2) := by decide +kernel
theorem dX7_rule_37 : decode cX7_rule 37 = .ok (.bipush 25, 2) := by decide +kernel
theorem dX7_rule_39 : decode cX7_rule 39 = .ok (.iload_n 1, 1) := by decide +kernel
theorem dX7_rule_40 : decode cX7_rule 40 = .ok (.bipush 8, 2) := by decide +kernel
theorem dX7_rule_42 : decode cX7_rule 42 = .ok (.isub, 1) := by decide +kernel
theorem dX7_rule_43 : decode cX7_rule 43 = .ok (.imul, 1) := by decide +kernel
theorem dX7_rule_44 : decode cX7_rule 44 = .ok (.iadd, 1) := by decide +kernel
theorem dX7_rule_45 : decode cX7_rule 45 = .ok (.istore 4, 2) := by decide +kernel
theorem dX7_rule_47 : decode cX7_rule 47 = .ok (.aload_n 0, 1) := by decide +kernel
theorem dX7_rule_48 : decode cX7_rule 48 = .ok (.getfield 48, 3) := by decide +kernel
theorem dX7_rule_51 : decode cX7_rule 51 = .ok (.iload 4, 2) := by decide +kernel
theorem dX7_rule_53 : decode cX7_rule 53 = .ok (.iload_n 3, 1) := by decide +kernel
theorem dX7_rule_54 : decode cX7_rule 54 = .ok (.iastore, 1) := by decide +kernel
theorem dX7_rule_55 : decode cX7_rule 55 = .ok (.iconst 0, 1) := by decide +kernel
theorem dX7_rule_56 : decode cX7_rule 56 = .ok (.istore 5, 2) := by decide +kernel
theorem dX7_rule_58 : decode cX7_rule 58 = .ok (.iload 5, 2) := by decide +kernel
theorem dX7_rule_60 : decode cX7_rule 60 = .ok (.iload_n 3, 1) := by decide +kernel
theorem dX7_rule_61 : decode cX7_rule 61 = .ok (.if_icmp .ge 78, 3) := by decide +kernel
theorem dX7_rule_64 : decode cX7_rule 64 = .ok (.aload_n 0, 1) := by decide +kernel
theorem dX7_rule_65 : decode cX7_rule 65 = .ok (.getfield 48, 3) := by decide +kernel
theorem dX7_rule_68 : decode cX7_rule 68 = .ok (.iload 4, 2) := by decide +kernel
theorem dX7_rule_70 : decode cX7_rule 70 = .ok (.iconst 1, 1) := by decide +kernel
theorem dX7_rule_71 : decode cX7_rule 71 = .ok (.iadd, 1) := by decide +kernel
theorem dX7_rule_72 : decode cX7_rule 72 = .ok (.iconst 2, 1) := by decide +kernel
theorem dX7_rule_73 : decode cX7_rule 73 = .ok (.iload 5, 2) := by decide +kernel
theorem dX7_rule_75 : decode cX7_rule 75 = .ok (.imul, 1) := by decide +kernel
theorem dX7_rule_76 : decode cX7_rule 76 = .ok (.iadd, 1) := by decide +kernel
theorem dX7_rule_77 : decode cX7_rule 77 = .ok (.aload_n 0, 1) := by decide +kernel
theorem dX7_rule_78 : decode cX7_rule 78 = .ok (.getfield 57, 3) := by decide +kernel
theorem dX7_rule_81 : decode cX7_rule 81 = .ok (.iconst 3, 1) := by decide +kernel
theorem dX7_rule_82 : decode cX7_rule 82 = .ok (.iload 5, 2) := by decide +kernel
theorem dX7_rule_84 : decode cX7_rule 84 = .ok (.imul, 1) := by decide +kernel
theorem dX7_rule_85 : decode cX7_rule 85 = .ok (.iaload, 1) := by decide +kernel
theorem dX7_rule_86 : decode cX7_rule 86 = .ok (.iastore, 1) := by decide +kernel
theorem dX7_rule_87 : decode cX7_rule 87 = .ok (.aload_n 0, 1) := by decide +kernel
theorem dX7_rule_88 : decode cX7_rule 88 = .ok (.getfield 48, 3) := by decide +kernel
theorem dX7_rule_91 : decode cX7_rule 91 = .ok (.iload 4, 2) := by decide +kernel
theorem dX7_rule_93 : decode cX7_rule 93 = .ok (.iconst 2, 1) := by decide +kernel
theorem dX7_rule_94 : decode cX7_rule 94 = .ok (.iadd, 1) := by decide +kernel
theorem dX7_rule_95 : decode cX7_rule 95 = .ok (.iconst 2, 1) := by decide +kernel
theorem dX7_rule_96 : decode cX7_rule 96 = .ok (.iload 5, 2) := by decide +kernel
theorem dX7_rule_98 : decode cX7_rule 98 = .ok (.imul, 1) := by decide +kernel
theorem dX7_rule_99 : decode cX7_rule 99 = .ok (.iadd, 1) := by decide +kernel
theorem dX7_rule_100 : decode cX7_rule 100 = .ok (.bipush 10, 2) := by decide +kernel
theorem dX7_rule_102 : decode cX7_rule 102 = .ok (.aload_n 0, 1) := by decide +kernel
theorem dX7_rule_103 : decode cX7_rule 103 = .ok (.getfield 57, 3) := by decide +kernel
theorem dX7_rule_106 : decode cX7_rule 106 = .ok (.iconst 3, 1) := by decide +kernel
theorem dX7_rule_107 : decode cX7_rule 107 = .ok (.iload 5, 2) := by decide +kernel
theorem dX7_rule_109 : decode cX7_rule 109 = .ok (.imul, 1) := by decide +kernel
theorem dX7_rule_110 : decode cX7_rule 110 = .ok (.iconst 1, 1) := by decide +kernel
theorem dX7_rule_111 : decode cX7_rule 111 = .ok (.iadd, 1) := by decide +kernel
theorem dX7_rule_112 : decode cX7_rule 112 = .ok (.iaload, 1) := by decide +kernel
theorem dX7_rule_113 : decode cX7_rule 113 = .ok (.bipush 48, 2) := by decide +kernel
theorem dX7_rule_115 : decode cX7_rule 115 = .ok (.isub, 1) := by decide +kernel
theorem dX7_rule_116 : decode cX7_rule 116 = .ok (.imul, 1) := by decide +kernel
theorem dX7_rule_117 : decode cX7_rule 117 = .ok (.aload_n 0, 1) := by decide +kernel
theorem dX7_rule_118 : decode cX7_rule 118 = .ok (.getfield 57, 3) := by decide +kernel
theorem dX7_rule_121 : decode cX7_rule 121 = .ok (.iconst 3, 1) := by decide +kernel
theorem dX7_rule_122 : decode cX7_rule 122 = .ok (.iload 5, 2) := by decide +kernel
theorem dX7_rule_124 : decode cX7_rule 124 = .ok (.imul, 1) := by decide +kernel
theorem dX7_rule_125 : decode cX7_rule 125 = .ok (.iconst 2, 1) := by decide +kernel
theorem dX7_rule_126 : decode cX7_rule 126 = .ok (.iadd, 1) := by decide +kernel
theorem dX7_rule_127 : decode cX7_rule 127 = .ok (.iaload, 1) := by decide +kernel
theorem dX7_rule_128 : decode cX7_rule 128 = .ok (.iadd, 1) := by decide +kernel
theorem dX7_rule_129 : decode cX7_rule 129 = .ok (.bipush 48, 2) := by decide +kernel
theorem dX7_rule_131 : decode cX7_rule 131 = .ok (.isub, 1) := by decide +kernel
theorem dX7_rule_132 : decode cX7_rule 132 = .ok (.iastore, 1) := by decide +kernel
theorem dX7_rule_133 : decode cX7_rule 133 = .ok (.iinc 5 1, 3) := by decide +kernel
theorem dX7_rule_136 : decode cX7_rule 136 = .ok (.goto (-78), 3) := by decide +kernel
theorem dX7_rule_139 : decode cX7_rule 139 = .ok (.aload_n 0, 1) := by decide +kernel
theorem dX7_rule_140 : decode cX7_rule 140 = .ok (.getfield 48, 3) := by decide +kernel
theorem dX7_rule_143 : decode cX7_rule 143 = .ok (.aload_n 0, 1) := by decide +kernel
theorem dX7_rule_144 : decode cX7_rule 144 = .ok (.iload_n 1, 1) := by decide +kernel
theorem dX7_rule_145 : decode cX7_rule 145 = .ok (.invokevirtual 98, 3) := by decide +kernel
theorem dX7_rule_148 : decode cX7_rule 148 = .ok (.iconst (-1), 1) := by decide +kernel
theorem dX7_rule_149 : decode cX7_rule 149 = .ok (.iastore, 1) := by decide +kernel
theorem dX7_rule_150 : decode cX7_rule 150 = .ok (.iload_n 3, 1) := by decide +kernel
theorem dX7_rule_151 : decode cX7_rule 151 = .ok (.ireturn, 1) := by decide +kernel
theorem dX7_drop_0 : decode cX7_drop 0 = .ok (.iload_n 1, 1) := by decide +kernel
theorem dX7_drop_1 : decode cX7_drop 1 = .ok (.invokestatic 101, 3) := by decide +kernel
theorem dX7_drop_4 : decode cX7_drop 4 = .ok (.ifCond .ne 5, 3) := by decide +kernel
theorem dX7_drop_7 : decode cX7_drop 7 = .ok (.iconst (-1), 1) := by decide +kernel
theorem dX7_drop_8 : decode cX7_drop 8 = .ok (.ireturn, 1) := by decide +kernel
theorem dX7_drop_9 : decode cX7_drop 9 = .ok (.aload_n 0, 1) := by decide +kernel
theorem dX7_drop_10 : decode cX7_drop 10 = .ok (.iload_n 1, 1) := by decide +kernel
theorem dX7_drop_11 : decode cX7_drop 11 = .ok (.iconst 0, 1) := by decide +kernel
theorem dX7_drop_12 : decode cX7_drop 12 = .ok (.invokevirtual 140, 3) := by decide +kernel
theorem dX7_drop_15 : decode cX7_drop 15 = .ok (.istore_n 2, 1) := by decide +kernel
theorem dX7_drop_16 : decode cX7_drop 16 = .ok (.iload_n 2, 1) := by decide +kernel
theorem dX7_drop_17 : decode cX7_drop 17 = .ok (.ifCond .ne 6, 3) := by decide +kernel
theorem dX7_drop_20 : decode cX7_drop 20 = .ok (.bipush (-3), 2) := by decide +kernel
theorem dX7_drop_22 : decode cX7_drop 22 = .ok (.ireturn, 1) := by decide +kernel
theorem dX7_drop_23 : decode cX7_drop 23 = .ok (.aload_n 0, 1) := by decide +kernel
theorem dX7_drop_24 : decode cX7_drop 24 = .ok (.getfield 48, 3) := by decide +kernel
theorem dX7_drop_27 : decode cX7_drop 27 = .ok (.bipush 8, 2) := by decide +kernel
theorem dX7_drop_29 : decode cX7_drop 29 = .ok (.bipush 25, 2) := by decide +kernel
theorem dX7_drop_31 : decode cX7_drop 31 = .ok (.iload_n 1, 1) := by decide +kernel
theorem dX7_drop_32 : decode cX7_drop 32 = .ok (.bipush 8, 2) := by decide +kernel
theorem dX7_drop_34 : decode cX7_drop 34 = .ok (.isub, 1) := by decide +kernel
theorem dX7_drop_35 : decode cX7_drop 35 = .ok (.imul, 1) := by decide +kernel
theorem dX7_drop_36 : decode cX7_drop 36 = .ok (.iadd, 1) := by decide +kernel
theorem dX7_drop_37 : decode cX7_drop 37 = .ok (.iconst 0, 1) := by decide +kernel
theorem dX7_drop_38 : decode cX7_drop 38 = .ok (.iastore, 1) := by decide +kernel
theorem dX7_drop_39 : decode cX7_drop 39 = .ok (.aload_n 0, 1) := by decide +kernel
theorem dX7_drop_40 : decode cX7_drop 40 = .ok (.getfield 48, 3) := by decide +kernel
theorem dX7_drop_43 : decode cX7_drop 43 = .ok (.aload_n 0, 1) := by decide +kernel
theorem dX7_drop_44 : decode cX7_drop 44 = .ok (.iload_n 1, 1) := by decide +kernel
theorem dX7_drop_45 : decode cX7_drop 45 = .ok (.invokevirtual 98, 3) := by decide +kernel
theorem dX7_drop_48 : decode cX7_drop 48 = .ok (.iconst (-1), 1) := by decide +kernel
theorem dX7_drop_49 : decode cX7_drop 49 = .ok (.iastore, 1) := by decide +kernel
theorem dX7_drop_50 : decode cX7_drop 50 = .ok (.iload_n 2, 1) := by decide +kernel
theorem dX7_drop_51 : decode cX7_drop 51 = .ok (.ireturn, 1) := by decide +kernel
theorem dX7_copy_0 : decode cX7_copy 0 = .ok (.iload_n 1, 1) := by decide +kernel
theorem dX7_copy_1 : decode cX7_copy 1 = .ok (.invokestatic 101, 3) := by decide +kernel
theorem dX7_copy_4 : decode cX7_copy 4 = .ok (.ifCond .eq 10, 3) := by decide +kernel
theorem dX7_copy_7 : decode cX7_copy 7 = .ok (.iload_n 2, 1) := by decide +kernel
theorem dX7_copy_8 : decode cX7_copy 8 = .ok (.invokestatic 101, 3) := by decide +kernel
theorem dX7_copy_11 : decode cX7_copy 11 = .ok (.ifCond .ne 5, 3) := by decide +kernel
theorem dX7_copy_14 : decode cX7_copy 14 = .ok (.iconst (-1), 1) := by decide +kernel
theorem dX7_copy_15 : decode cX7_copy 15 = .ok (.ireturn, 1) := by decide +kernel
theorem dX7_copy_16 : decode cX7_copy 16 = .ok (.aload_n 0, 1) := by decide +kernel
theorem dX7_copy_17 : decode cX7_copy 17 = .ok (.iload_n 1, 1) := by decide +kernel
theorem dX7_copy_18 : decode cX7_copy 18 = .ok (.iconst 0, 1) := by decide +kernel
theorem dX7_copy_19 : decode cX7_copy 19 = .ok (.invokevirtual 140, 3) := by decide +kernel
theorem dX7_copy_22 : decode cX7_copy 22 = .ok (.ifCond .ne 6, 3) := by decide +kernel
theorem dX7_copy_25 : decode cX7_copy 25 = .ok (.bipush (-3), 2) := by decide +kernel
theorem dX7_copy_27 : decode cX7_copy 27 = .ok (.ireturn, 1) := by decide +kernel
theorem dX7_copy_28 : decode cX7_copy 28 = .ok (.iconst 0, 1) := by decide +kernel
theorem dX7_copy_29 : decode cX7_copy 29 = .ok (.istore_n 3, 1) := by decide +kernel
theorem dX7_copy_30 : decode cX7_copy 30 = .ok (.iload_n 3, 1) := by decide +kernel
theorem dX7_copy_31 : decode cX7_copy 31 = .ok (.bipush 25, 2) := by decide +kernel
theorem dX7_copy_33 : decode cX7_copy 33 = .ok (.if_icmp .ge 32, 3) := by decide +kernel
theorem dX7_copy_36 : decode cX7_copy 36 = .ok (.aload_n 0, 1) := by decide +kernel
theorem dX7_copy_37 : decode cX7_copy 37 = .ok (.getfield 48, 3) := by decide +kernel
theorem dX7_copy_40 : decode cX7_copy 40 = .ok (.bipush 8, 2) := by decide +kernel
theorem dX7_copy_42 : decode cX7_copy 42 = .ok (.bipush 25, 2) := by decide +kernel
theorem dX7_copy_44 : decode cX7_copy 44 = .ok (.iload_n 2, 1) := by decide +kernel
theorem dX7_copy_45 : decode cX7_copy 45 = .ok (.bipush 8, 2) := by decide +kernel
theorem dX7_copy_47 : decode cX7_copy 47 = .ok (.isub, 1) := by decide +kernel
theorem dX7_copy_48 : decode cX7_copy 48 = .ok (.imul, 1) := by decide +kernel
theorem dX7_copy_49 : decode cX7_copy 49 = .ok (.iadd, 1) := by decide +kernel
theorem dX7_copy_50 : decode cX7_copy 50 = .ok (.iload_n 3, 1) := by decide +kernel
theorem dX7_copy_51 : decode cX7_copy 51 = .ok (.iadd, 1) := by decide +kernel
theorem dX7_copy_52 : decode cX7_copy 52 = .ok (.aload_n 0, 1) := by decide +kernel
theorem dX7_copy_53 : decode cX7_copy 53 = .ok (.iload_n 1, 1) := by decide +kernel
theorem dX7_copy_54 : decode cX7_copy 54 = .ok (.iload_n 3, 1) := by decide +kernel
theorem dX7_copy_55 : decode cX7_copy 55 = .ok (.invokevirtual 140, 3) := by decide +kernel
theorem dX7_copy_58 : decode cX7_copy 58 = .ok (.iastore, 1) := by decide +kernel
theorem dX7_copy_59 : decode cX7_copy 59 = .ok (.iinc 3 1, 3) := by decide +kernel
theorem dX7_copy_62 : decode cX7_copy 62 = .ok (.goto (-32), 3) := by decide +kernel
theorem dX7_copy_65 : decode cX7_copy 65 = .ok (.aload_n 0, 1) := by decide +kernel
theorem dX7_copy_66 : decode cX7_copy 66 = .ok (.getfield 48, 3) := by decide +kernel
theorem dX7_copy_69 : decode cX7_copy 69 = .ok (.aload_n 0, 1) := by decide +kernel
theorem dX7_copy_70 : decode cX7_copy 70 = .ok (.iload_n 2, 1) := by decide +kernel
theorem dX7_copy_71 : decode cX7_copy 71 = .ok (.invokevirtual 98, 3) := by decide +kernel
theorem dX7_copy_74 : decode cX7_copy 74 = .ok (.iconst (-1), 1) := by decide +kernel
theorem dX7_copy_75 : decode cX7_copy 75 = .ok (.iastore, 1) := by decide +kernel
theorem dX7_copy_76 : decode cX7_copy 76 = .ok (.aload_n 0, 1) := by decide +kernel
theorem dX7_copy_77 : decode cX7_copy 77 = .ok (.iload_n 1, 1) := by decide +kernel
theorem dX7_copy_78 : decode cX7_copy 78 = .ok (.iconst 0, 1) := by decide +kernel
theorem dX7_copy_79 : decode cX7_copy 79 = .ok (.invokevirtual 140, 3) := by decide +kernel
theorem dX7_copy_82 : decode cX7_copy 82 = .ok (.ireturn, 1) := by decide +kernel
theorem dX7_step_0 : decode cX7_step 0 = .ok (.iload_n 1, 1) := by decide +kernel
theorem dX7_step_1 : decode cX7_step 1 = .ok (.invokestatic 101, 3) := by decide +kernel
theorem dX7_step_4 : decode cX7_step 4 = .ok (.ifCond .ne 5, 3) := by decide +kernel
theorem dX7_step_7 : decode cX7_step 7 = .ok (.iconst (-1), 1) := by decide +kernel
theorem dX7_step_8 : decode cX7_step 8 = .ok (.ireturn, 1) := by decide +kernel
theorem dX7_step_9 : decode cX7_step 9 = .ok (.aload_n 0, 1) := by decide +kernel
theorem dX7_step_10 : decode cX7_step 10 = .ok (.iload_n 1, 1) := by decide +kernel
theorem dX7_step_11 : decode cX7_step 11 = .ok (.iconst 0, 1) := by decide +kernel
theorem dX7_step_12 : decode cX7_step 12 = .ok (.invokevirtual 140, 3) := by decide +kernel
theorem dX7_step_15 : decode cX7_step 15 = .ok (.istore_n 3, 1) := by decide +kernel
theorem dX7_step_16 : decode cX7_step 16 = .ok (.iload_n 3, 1) := by decide +kernel
theorem dX7_step_17 : decode cX7_step 17 = .ok (.ifCond .ne 15, 3) := by decide +kernel
theorem dX7_step_20 : decode cX7_step 20 = .ok (.iload_n 2, 1) := by decide +kernel
theorem dX7_step_21 : decode cX7_step 21 = .ok (.iconst (-1), 1) := by decide +kernel
theorem dX7_step_22 : decode cX7_step 22 = .ok (.if_icmp .ge 7, 3) := by decide +kernel
theorem dX7_step_25 : decode cX7_step 25 = .ok (.iconst (-1), 1) := by decide +kernel
theorem dX7_step_26 : decode cX7_step 26 = .ok (.goto 5, 3) := by decide +kernel
theorem dX7_step_29 : decode cX7_step 29 = .ok (.bipush (-3), 2) := by decide +kernel
theorem dX7_step_31 : decode cX7_step 31 = .ok (.ireturn, 1) := by decide +kernel
theorem dX7_step_32 : decode cX7_step 32 = .ok (.iload_n 2, 1) := by decide +kernel
theorem dX7_step_33 : decode cX7_step 33 = .ok (.iconst (-1), 1) := by decide +kernel
theorem dX7_step_34 : decode cX7_step 34 = .ok (.if_icmp .ne 7, 3) := by decide +kernel
theorem dX7_step_37 : decode cX7_step 37 = .ok (.iload_n 3, 1) := by decide +kernel
theorem dX7_step_38 : decode cX7_step 38 = .ok (.goto 44, 3) := by decide +kernel
theorem dX7_step_41 : decode cX7_step 41 = .ok (.iload_n 2, 1) := by decide +kernel
theorem dX7_step_42 : decode cX7_step 42 = .ok (.i2l, 1) := by decide +kernel
theorem dX7_step_43 : decode cX7_step 43 = .ok (.lconst 0, 1) := by decide +kernel
theorem dX7_step_44 : decode cX7_step 44 = .ok (.iload_n 3, 1) := by decide +kernel
theorem dX7_step_45 : decode cX7_step 45 = .ok (.iconst 1, 1) := by decide +kernel
theorem dX7_step_46 : decode cX7_step 46 = .ok (.isub, 1) := by decide +kernel
theorem dX7_step_47 : decode cX7_step 47 = .ok (.i2l, 1) := by decide +kernel
theorem dX7_step_48 : decode cX7_step 48 = .ok (.invokestatic 7, 3) := by decide +kernel
theorem dX7_step_51 : decode cX7_step 51 = .ok (.ifCond .eq 30, 3) := by decide +kernel
theorem dX7_step_54 : decode cX7_step 54 = .ok (.bipush 100, 2) := by decide +kernel
theorem dX7_step_56 : decode cX7_step 56 = .ok (.aload_n 0, 1) := by decide +kernel
theorem dX7_step_57 : decode cX7_step 57 = .ok (.iload_n 1, 1) := by decide +kernel
theorem dX7_step_58 : decode cX7_step 58 = .ok (.iconst 1, 1) := by decide +kernel
theorem dX7_step_59 : decode cX7_step 59 = .ok (.iconst 2, 1) := by decide +kernel
theorem dX7_step_60 : decode cX7_step 60 = .ok (.iload_n 2, 1) := by decide +kernel
theorem dX7_step_61 : decode cX7_step 61 = .ok (.imul, 1) := by decide +kernel
theorem dX7_step_62 : decode cX7_step 62 = .ok (.iadd, 1) := by decide +kernel
theorem dX7_step_63 : decode cX7_step 63 = .ok (.invokevirtual 140, 3) := by decide +kernel
theorem dX7_step_66 : decode cX7_step 66 = .ok (.imul, 1) := by decide +kernel
theorem dX7_step_67 : decode cX7_step 67 = .ok (.aload_n 0, 1) := by decide +kernel
theorem dX7_step_68 : decode cX7_step 68 = .ok (.iload_n 1, 1) := by decide +kernel
theorem dX7_step_69 : decode cX7_step 69 = .ok (.iconst 2, 1) := by decide +kernel
theorem dX7_step_70 : decode cX7_step 70 = .ok (.iconst 2, 1) := by decide +kernel
theorem dX7_step_71 : decode cX7_step 71 = .ok (.iload_n 2, 1) := by decide +kernel
theorem dX7_step_72 : decode cX7_step 72 = .ok (.imul, 1) := by decide +kernel
theorem dX7_step_73 : decode cX7_step 73 = .ok (.iadd, 1) := by decide +kernel
theorem dX7_step_74 : decode cX7_step 74 = .ok (.invokevirtual 140, 3) := by decide +kernel
theorem dX7_step_77 : decode cX7_step 77 = .ok (.iadd, 1) := by decide +kernel
theorem dX7_step_78 : decode cX7_step 78 = .ok (.goto 4, 3) := by decide +kernel
theorem dX7_step_81 : decode cX7_step 81 = .ok (.iconst (-1), 1) := by decide +kernel
theorem dX7_step_82 : decode cX7_step 82 = .ok (.ireturn, 1) := by decide +kernel
theorem dX7_isDone_0 : decode cX7_isDone 0 = .ok (.iload_n 1, 1) := by decide +kernel
theorem dX7_isDone_1 : decode cX7_isDone 1 = .ok (.invokestatic 108, 3) := by decide +kernel
theorem dX7_isDone_4 : decode cX7_isDone 4 = .ok (.ifCond .ne 12, 3) := by decide +kernel
theorem dX7_isDone_7 : decode cX7_isDone 7 = .ok (.aload_n 0, 1) := by decide +kernel
theorem dX7_isDone_8 : decode cX7_isDone 8 = .ok (.getfield 60, 3) := by decide +kernel
theorem dX7_isDone_11 : decode cX7_isDone 11 = .ok (.iload_n 1, 1) := by decide +kernel
theorem dX7_isDone_12 : decode cX7_isDone 12 = .ok (.baload, 1) := by decide +kernel
theorem dX7_isDone_13 : decode cX7_isDone 13 = .ok (.ifCond .eq 7, 3) := by decide +kernel
theorem dX7_isDone_16 : decode cX7_isDone 16 = .ok (.iconst 1, 1) := by decide +kernel
theorem dX7_isDone_17 : decode cX7_isDone 17 = .ok (.goto 4, 3) := by decide +kernel
theorem dX7_isDone_20 : decode cX7_isDone 20 = .ok (.iconst 0, 1) := by decide +kernel
theorem dX7_isDone_21 : decode cX7_isDone 21 = .ok (.ireturn, 1) := by decide +kernel
theorem dX7_finishes_0 : decode cX7_finishes 0 = .ok (.aload_n 0, 1) := by decide +kernel
theorem dX7_finishes_1 : decode cX7_finishes 1 = .ok (.getfield 64, 3) := by decide +kernel
theorem dX7_finishes_4 : decode cX7_finishes 4 = .ok (.iload_n 1, 1) := by decide +kernel
theorem dX7_finishes_5 : decode cX7_finishes 5 = .ok (.iconst 0, 1) := by decide +kernel
theorem dX7_finishes_6 : decode cX7_finishes 6 = .ok (.bastore, 1) := by decide +kernel
theorem dX7_finishes_7 : decode cX7_finishes 7 = .ok (.aload_n 0, 1) := by decide +kernel
theorem dX7_finishes_8 : decode cX7_finishes 8 = .ok (.getfield 60, 3) := by decide +kernel
theorem dX7_finishes_11 : decode cX7_finishes 11 = .ok (.iload_n 1, 1) := by decide +kernel
theorem dX7_finishes_12 : decode cX7_finishes 12 = .ok (.iconst 1, 1) := by decide +kernel
theorem dX7_finishes_13 : decode cX7_finishes 13 = .ok (.bastore, 1) := by decide +kernel
theorem dX7_finishes_14 : decode cX7_finishes 14 = .ok (.aload_n 0, 1) := by decide +kernel
theorem dX7_finishes_15 : decode cX7_finishes 15 = .ok (.getfield 67, 3) := by decide +kernel
theorem dX7_finishes_18 : decode cX7_finishes 18 = .ok (.aload_n 0, 1) := by decide +kernel
theorem dX7_finishes_19 : decode cX7_finishes 19 = .ok (.getfield 144, 3) := by decide +kernel
theorem dX7_finishes_22 : decode cX7_finishes 22 = .ok (.iload_n 1, 1) := by decide +kernel
theorem dX7_finishes_23 : decode cX7_finishes 23 = .ok (.iastore, 1) := by decide +kernel
theorem dX7_finishes_24 : decode cX7_finishes 24 = .ok (.aload_n 0, 1) := by decide +kernel
theorem dX7_finishes_25 : decode cX7_finishes 25 = .ok (.dup, 1) := by decide +kernel
theorem dX7_finishes_26 : decode cX7_finishes 26 = .ok (.getfield 144, 3) := by decide +kernel
theorem dX7_finishes_29 : decode cX7_finishes 29 = .ok (.iconst 1, 1) := by decide +kernel
theorem dX7_finishes_30 : decode cX7_finishes 30 = .ok (.iadd, 1) := by decide +kernel
theorem dX7_finishes_31 : decode cX7_finishes 31 = .ok (.putfield 144, 3) := by decide +kernel
theorem dX7_finishes_34 : decode cX7_finishes 34 = .ok (.return_, 1) := by decide +kernel
theorem dX7_builds_0 : decode cX7_builds 0 = .ok (.aload_n 0, 1) := by decide +kernel
theorem dX7_builds_1 : decode cX7_builds 1 = .ok (.getfield 64, 3) := by decide +kernel
theorem dX7_builds_4 : decode cX7_builds 4 = .ok (.iload_n 1, 1) := by decide +kernel
theorem dX7_builds_5 : decode cX7_builds 5 = .ok (.iconst 1, 1) := by decide +kernel
theorem dX7_builds_6 : decode cX7_builds 6 = .ok (.bastore, 1) := by decide +kernel
theorem dX7_builds_7 : decode cX7_builds 7 = .ok (.aload_n 0, 1) := by decide +kernel
theorem dX7_builds_8 : decode cX7_builds 8 = .ok (.iload_n 1, 1) := by decide +kernel
theorem dX7_builds_9 : decode cX7_builds 9 = .ok (.iconst 0, 1) := by decide +kernel
theorem dX7_builds_10 : decode cX7_builds 10 = .ok (.invokevirtual 140, 3) := by decide +kernel
theorem dX7_builds_13 : decode cX7_builds 13 = .ok (.ifCond .ne 39, 3) := by decide +kernel
theorem dX7_builds_16 : decode cX7_builds 16 = .ok (.aload_n 0, 1) := by decide +kernel
theorem dX7_builds_17 : decode cX7_builds 17 = .ok (.getfield 48, 3) := by decide +kernel
theorem dX7_builds_20 : decode cX7_builds 20 = .ok (.sipush 408, 3) := by decide +kernel
theorem dX7_builds_23 : decode cX7_builds 23 = .ok (.iload_n 1, 1) := by decide +kernel
theorem dX7_builds_24 : decode cX7_builds 24 = .ok (.iadd, 1) := by decide +kernel
theorem dX7_builds_25 : decode cX7_builds 25 = .ok (.bipush 8, 2) := by decide +kernel
theorem dX7_builds_27 : decode cX7_builds 27 = .ok (.isub, 1) := by decide +kernel
theorem dX7_builds_28 : decode cX7_builds 28 = .ok (.aload_n 0, 1) := by decide +kernel
theorem dX7_builds_29 : decode cX7_builds 29 = .ok (.iload_n 1, 1) := by decide +kernel
theorem dX7_builds_30 : decode cX7_builds 30 = .ok (.bipush 6, 2) := by decide +kernel
theorem dX7_builds_32 : decode cX7_builds 32 = .ok (.iconst (-1), 1) := by decide +kernel
theorem dX7_builds_33 : decode cX7_builds 33 = .ok (.iconst (-1), 1) := by decide +kernel
theorem dX7_builds_34 : decode cX7_builds 34 = .ok (.invokevirtual 104, 3) := by decide +kernel
theorem dX7_builds_37 : decode cX7_builds 37 = .ok (.iastore, 1) := by decide +kernel
theorem dX7_builds_38 : decode cX7_builds 38 = .ok (.aload_n 0, 1) := by decide +kernel
theorem dX7_builds_39 : decode cX7_builds 39 = .ok (.getfield 48, 3) := by decide +kernel
theorem dX7_builds_42 : decode cX7_builds 42 = .ok (.aload_n 0, 1) := by decide +kernel
theorem dX7_builds_43 : decode cX7_builds 43 = .ok (.iload_n 1, 1) := by decide +kernel
theorem dX7_builds_44 : decode cX7_builds 44 = .ok (.invokevirtual 98, 3) := by decide +kernel
theorem dX7_builds_47 : decode cX7_builds 47 = .ok (.iconst (-1), 1) := by decide +kernel
theorem dX7_builds_48 : decode cX7_builds 48 = .ok (.iastore, 1) := by decide +kernel
theorem dX7_builds_49 : decode cX7_builds 49 = .ok (.goto 81, 3) := by decide +kernel
theorem dX7_builds_52 : decode cX7_builds 52 = .ok (.aload_n 0, 1) := by decide +kernel
theorem dX7_builds_53 : decode cX7_builds 53 = .ok (.iload_n 1, 1) := by decide +kernel
theorem dX7_builds_54 : decode cX7_builds 54 = .ok (.invokevirtual 147, 3) := by decide +kernel
theorem dX7_builds_57 : decode cX7_builds 57 = .ok (.ifCond .lt 24, 3) := by decide +kernel
theorem dX7_builds_60 : decode cX7_builds 60 = .ok (.aload_n 0, 1) := by decide +kernel
theorem dX7_builds_61 : decode cX7_builds 61 = .ok (.iload_n 1, 1) := by decide +kernel
theorem dX7_builds_62 : decode cX7_builds 62 = .ok (.invokevirtual 150, 3) := by decide +kernel
theorem dX7_builds_65 : decode cX7_builds 65 = .ok (.ifCond .eq 16, 3) := by decide +kernel
theorem dX7_builds_68 : decode cX7_builds 68 = .ok (.aload_n 0, 1) := by decide +kernel
theorem dX7_builds_69 : decode cX7_builds 69 = .ok (.dup, 1) := by decide +kernel
theorem dX7_builds_70 : decode cX7_builds 70 = .ok (.getfield 153, 3) := by decide +kernel
theorem dX7_builds_73 : decode cX7_builds 73 = .ok (.iconst 1, 1) := by decide +kernel
theorem dX7_builds_74 : decode cX7_builds 74 = .ok (.iadd, 1) := by decide +kernel
theorem dX7_builds_75 : decode cX7_builds 75 = .ok (.putfield 153, 3) := by decide +kernel
theorem dX7_builds_78 : decode cX7_builds 78 = .ok (.goto 52, 3) := by decide +kernel
theorem dX7_builds_81 : decode cX7_builds 81 = .ok (.aload_n 0, 1) := by decide +kernel
theorem dX7_builds_82 : decode cX7_builds 82 = .ok (.iload_n 1, 1) := by decide +kernel
theorem dX7_builds_83 : decode cX7_builds 83 = .ok (.invokevirtual 156, 3) := by decide +kernel
theorem dX7_builds_86 : decode cX7_builds 86 = .ok (.istore_n 2, 1) := by decide +kernel
theorem dX7_builds_87 : decode cX7_builds 87 = .ok (.aload_n 0, 1) := by decide +kernel
theorem dX7_builds_88 : decode cX7_builds 88 = .ok (.iload_n 1, 1) := by decide +kernel
theorem dX7_builds_89 : decode cX7_builds 89 = .ok (.invokevirtual 159, 3) := by decide +kernel
theorem dX7_builds_92 : decode cX7_builds 92 = .ok (.istore_n 3, 1) := by decide +kernel
theorem dX7_builds_93 : decode cX7_builds 93 = .ok (.aload_n 0, 1) := by decide +kernel
theorem dX7_builds_94 : decode cX7_builds 94 = .ok (.dup, 1) := by decide +kernel
theorem dX7_builds_95 : decode cX7_builds 95 = .ok (.getfield 162, 3) := by decide +kernel
theorem dX7_builds_98 : decode cX7_builds 98 = .ok (.iload_n 2, 1) := by decide +kernel
theorem dX7_builds_99 : decode cX7_builds 99 = .ok (.ifCond .lt 12, 3) := by decide +kernel
theorem dX7_builds_102 : decode cX7_builds 102 = .ok (.iload_n 2, 1) := by decide +kernel
theorem dX7_builds_103 : decode cX7_builds 103 = .ok (.iload_n 3, 1) := by decide +kernel
theorem dX7_builds_104 : decode cX7_builds 104 = .ok (.if_icmp .ne 7, 3) := by decide +kernel
theorem dX7_builds_107 : decode cX7_builds 107 = .ok (.iconst 1, 1) := by decide +kernel
theorem dX7_builds_108 : decode cX7_builds 108 = .ok (.goto 4, 3) := by decide +kernel
theorem dX7_builds_111 : decode cX7_builds 111 = .ok (.iconst 0, 1) := by decide +kernel
theorem dX7_builds_112 : decode cX7_builds 112 = .ok (.iadd, 1) := by decide +kernel
theorem dX7_builds_113 : decode cX7_builds 113 = .ok (.putfield 162, 3) := by decide +kernel
theorem dX7_builds_116 : decode cX7_builds 116 = .ok (.aload_n 0, 1) := by decide +kernel
theorem dX7_builds_117 : decode cX7_builds 117 = .ok (.getfield 48, 3) := by decide +kernel
theorem dX7_builds_120 : decode cX7_builds 120 = .ok (.sipush 408, 3) := by decide +kernel
theorem dX7_builds_123 : decode cX7_builds 123 = .ok (.iload_n 1, 1) := by decide +kernel
theorem dX7_builds_124 : decode cX7_builds 124 = .ok (.iadd, 1) := by decide +kernel
theorem dX7_builds_125 : decode cX7_builds 125 = .ok (.bipush 8, 2) := by decide +kernel
theorem dX7_builds_127 : decode cX7_builds 127 = .ok (.isub, 1) := by decide +kernel
theorem dX7_builds_128 : decode cX7_builds 128 = .ok (.iload_n 3, 1) := by decide +kernel
theorem dX7_builds_129 : decode cX7_builds 129 = .ok (.iastore, 1) := by decide +kernel
theorem dX7_builds_130 : decode cX7_builds 130 = .ok (.aload_n 0, 1) := by decide +kernel
theorem dX7_builds_131 : decode cX7_builds 131 = .ok (.iload_n 1, 1) := by decide +kernel
theorem dX7_builds_132 : decode cX7_builds 132 = .ok (.invokevirtual 165, 3) := by decide +kernel
theorem dX7_builds_135 : decode cX7_builds 135 = .ok (.return_, 1) := by decide +kernel
theorem dX7_isAsSeen_0 : decode cX7_isAsSeen 0 = .ok (.aload_n 0, 1) := by decide +kernel
theorem dX7_isAsSeen_1 : decode cX7_isAsSeen 1 = .ok (.iload_n 1, 1) := by decide +kernel
theorem dX7_isAsSeen_2 : decode cX7_isAsSeen 2 = .ok (.invokevirtual 98, 3) := by decide +kernel
theorem dX7_isAsSeen_5 : decode cX7_isAsSeen 5 = .ok (.istore_n 2, 1) := by decide +kernel
theorem dX7_isAsSeen_6 : decode cX7_isAsSeen 6 = .ok (.iconst 1, 1) := by decide +kernel
theorem dX7_isAsSeen_7 : decode cX7_isAsSeen 7 = .ok (.istore_n 3, 1) := by decide +kernel
theorem dX7_isAsSeen_8 : decode cX7_isAsSeen 8 = .ok (.iconst 0, 1) := by decide +kernel
theorem dX7_isAsSeen_9 : decode cX7_isAsSeen 9 = .ok (.istore 4, 2) := by decide +kernel
theorem dX7_isAsSeen_11 : decode cX7_isAsSeen 11 = .ok (.iload 4, 2) := by decide +kernel
theorem dX7_isAsSeen_13 : decode cX7_isAsSeen 13 = .ok (.aload_n 0, 1) := by decide +kernel
theorem dX7_isAsSeen_14 : decode cX7_isAsSeen 14 = .ok (.getfield 48, 3) := by decide +kernel
theorem dX7_isAsSeen_17 : decode cX7_isAsSeen 17 = .ok (.iload_n 2, 1) := by decide +kernel
theorem dX7_isAsSeen_18 : decode cX7_isAsSeen 18 = .ok (.iaload, 1) := by decide +kernel
theorem dX7_isAsSeen_19 : decode cX7_isAsSeen 19 = .ok (.if_icmp .ge 100, 3) := by decide +kernel
theorem dX7_isAsSeen_22 : decode cX7_isAsSeen 22 = .ok (.iload_n 3, 1) := by decide +kernel
theorem dX7_isAsSeen_23 : decode cX7_isAsSeen 23 = .ok (.ifCond .eq 96, 3) := by decide +kernel
theorem dX7_isAsSeen_26 : decode cX7_isAsSeen 26 = .ok (.aload_n 0, 1) := by decide +kernel
theorem dX7_isAsSeen_27 : decode cX7_isAsSeen 27 = .ok (.getfield 48, 3) := by decide +kernel
theorem dX7_isAsSeen_30 : decode cX7_isAsSeen 30 = .ok (.iload_n 2, 1) := by decide +kernel
theorem dX7_isAsSeen_31 : decode cX7_isAsSeen 31 = .ok (.iconst 1, 1) := by decide +kernel
theorem dX7_isAsSeen_32 : decode cX7_isAsSeen 32 = .ok (.iadd, 1) := by decide +kernel
theorem dX7_isAsSeen_33 : decode cX7_isAsSeen 33 = .ok (.iload 4, 2) := by decide +kernel
theorem dX7_isAsSeen_35 : decode cX7_isAsSeen 35 = .ok (.iadd, 1) := by decide +kernel
theorem dX7_isAsSeen_36 : decode cX7_isAsSeen 36 = .ok (.iaload, 1) := by decide +kernel
theorem dX7_isAsSeen_37 : decode cX7_isAsSeen 37 = .ok (.istore 5, 2) := by decide +kernel
theorem dX7_isAsSeen_39 : decode cX7_isAsSeen 39 = .ok (.iload 5, 2) := by decide +kernel
theorem dX7_isAsSeen_41 : decode cX7_isAsSeen 41 = .ok (.invokestatic 108, 3) := by decide +kernel
theorem dX7_isAsSeen_44 : decode cX7_isAsSeen 44 = .ok (.ifCond .ne 13, 3) := by decide +kernel
theorem dX7_isAsSeen_47 : decode cX7_isAsSeen 47 = .ok (.aload_n 0, 1) := by decide +kernel
theorem dX7_isAsSeen_48 : decode cX7_isAsSeen 48 = .ok (.getfield 64, 3) := by decide +kernel
theorem dX7_isAsSeen_51 : decode cX7_isAsSeen 51 = .ok (.iload 5, 2) := by decide +kernel
theorem dX7_isAsSeen_53 : decode cX7_isAsSeen 53 = .ok (.baload, 1) := by decide +kernel
theorem dX7_isAsSeen_54 : decode cX7_isAsSeen 54 = .ok (.ifCond .ne 7, 3) := by decide +kernel
theorem dX7_isAsSeen_57 : decode cX7_isAsSeen 57 = .ok (.iconst 1, 1) := by decide +kernel
theorem dX7_isAsSeen_58 : decode cX7_isAsSeen 58 = .ok (.goto 4, 3) := by decide +kernel
theorem dX7_isAsSeen_61 : decode cX7_isAsSeen 61 = .ok (.iconst 0, 1) := by decide +kernel
theorem dX7_isAsSeen_62 : decode cX7_isAsSeen 62 = .ok (.istore_n 3, 1) := by decide +kernel
theorem dX7_isAsSeen_63 : decode cX7_isAsSeen 63 = .ok (.iload_n 3, 1) := by decide +kernel
theorem dX7_isAsSeen_64 : decode cX7_isAsSeen 64 = .ok (.ifCond .eq 18, 3) := by decide +kernel
theorem dX7_isAsSeen_67 : decode cX7_isAsSeen 67 = .ok (.aload_n 0, 1) := by decide +kernel
theorem dX7_isAsSeen_68 : decode cX7_isAsSeen 68 = .ok (.iload 5, 2) := by decide +kernel
theorem dX7_isAsSeen_70 : decode cX7_isAsSeen 70 = .ok (.invokevirtual 169, 3) := by decide +kernel
theorem dX7_isAsSeen_73 : decode cX7_isAsSeen 73 = .ok (.ifCond .ne 9, 3) := by decide +kernel
theorem dX7_isAsSeen_76 : decode cX7_isAsSeen 76 = .ok (.aload_n 0, 1) := by decide +kernel
theorem dX7_isAsSeen_77 : decode cX7_isAsSeen 77 = .ok (.iload 5, 2) := by decide +kernel
theorem dX7_isAsSeen_79 : decode cX7_isAsSeen 79 = .ok (.invokevirtual 172, 3) := by decide +kernel
theorem dX7_isAsSeen_82 : decode cX7_isAsSeen 82 = .ok (.iload_n 3, 1) := by decide +kernel
theorem dX7_isAsSeen_83 : decode cX7_isAsSeen 83 = .ok (.ifCond .eq 28, 3) := by decide +kernel
theorem dX7_isAsSeen_86 : decode cX7_isAsSeen 86 = .ok (.aload_n 0, 1) := by decide +kernel
theorem dX7_isAsSeen_87 : decode cX7_isAsSeen 87 = .ok (.iload 5, 2) := by decide +kernel
theorem dX7_isAsSeen_89 : decode cX7_isAsSeen 89 = .ok (.invokevirtual 156, 3) := by decide +kernel
theorem dX7_isAsSeen_92 : decode cX7_isAsSeen 92 = .ok (.aload_n 0, 1) := by decide +kernel
theorem dX7_isAsSeen_93 : decode cX7_isAsSeen 93 = .ok (.getfield 48, 3) := by decide +kernel
theorem dX7_isAsSeen_96 : decode cX7_isAsSeen 96 = .ok (.iload_n 2, 1) := by decide +kernel
theorem dX7_isAsSeen_97 : decode cX7_isAsSeen 97 = .ok (.bipush 13, 2) := by decide +kernel
theorem dX7_isAsSeen_99 : decode cX7_isAsSeen 99 = .ok (.iadd, 1) := by decide +kernel
theorem dX7_isAsSeen_100 : decode cX7_isAsSeen 100 = .ok (.iload 4, 2) := by decide +kernel
theorem dX7_isAsSeen_102 : decode cX7_isAsSeen 102 = .ok (.iadd, 1) := by decide +kernel
theorem dX7_isAsSeen_103 : decode cX7_isAsSeen 103 = .ok (.iaload, 1) := by decide +kernel
theorem dX7_isAsSeen_104 : decode cX7_isAsSeen 104 = .ok (.if_icmp .ne 7, 3) := by decide +kernel
theorem dX7_isAsSeen_107 : decode cX7_isAsSeen 107 = .ok (.iconst 1, 1) := by decide +kernel
theorem dX7_isAsSeen_108 : decode cX7_isAsSeen 108 = .ok (.goto 4, 3) := by decide +kernel
theorem dX7_isAsSeen_111 : decode cX7_isAsSeen 111 = .ok (.iconst 0, 1) := by decide +kernel
theorem dX7_isAsSeen_112 : decode cX7_isAsSeen 112 = .ok (.istore_n 3, 1) := by decide +kernel
theorem dX7_isAsSeen_113 : decode cX7_isAsSeen 113 = .ok (.iinc 4 1, 3) := by decide +kernel
theorem dX7_isAsSeen_116 : decode cX7_isAsSeen 116 = .ok (.goto (-105), 3) := by decide +kernel
theorem dX7_isAsSeen_119 : decode cX7_isAsSeen 119 = .ok (.iload_n 3, 1) := by decide +kernel
theorem dX7_isAsSeen_120 : decode cX7_isAsSeen 120 = .ok (.ireturn, 1) := by decide +kernel
theorem dX7_notes_0 : decode cX7_notes 0 = .ok (.iconst 0, 1) := by decide +kernel
theorem dX7_notes_1 : decode cX7_notes 1 = .ok (.istore_n 3, 1) := by decide +kernel
theorem dX7_notes_2 : decode cX7_notes 2 = .ok (.iconst 0, 1) := by decide +kernel
theorem dX7_notes_3 : decode cX7_notes 3 = .ok (.istore 4, 2) := by decide +kernel
theorem dX7_notes_5 : decode cX7_notes 5 = .ok (.iload 4, 2) := by decide +kernel
theorem dX7_notes_7 : decode cX7_notes 7 = .ok (.aload_n 0, 1) := by decide +kernel
theorem dX7_notes_8 : decode cX7_notes 8 = .ok (.getfield 175, 3) := by decide +kernel
theorem dX7_notes_11 : decode cX7_notes 11 = .ok (.if_icmp .ge 30, 3) := by decide +kernel
theorem dX7_notes_14 : decode cX7_notes 14 = .ok (.iload_n 3, 1) := by decide +kernel
theorem dX7_notes_15 : decode cX7_notes 15 = .ok (.ifCond .ne 14, 3) := by decide +kernel
theorem dX7_notes_18 : decode cX7_notes 18 = .ok (.aload_n 0, 1) := by decide +kernel
theorem dX7_notes_19 : decode cX7_notes 19 = .ok (.getfield 73, 3) := by decide +kernel
theorem dX7_notes_22 : decode cX7_notes 22 = .ok (.iload 4, 2) := by decide +kernel
theorem dX7_notes_24 : decode cX7_notes 24 = .ok (.iaload, 1) := by decide +kernel
theorem dX7_notes_25 : decode cX7_notes 25 = .ok (.iload_n 1, 1) := by decide +kernel
theorem dX7_notes_26 : decode cX7_notes 26 = .ok (.if_icmp .ne 7, 3) := by decide +kernel
theorem dX7_notes_29 : decode cX7_notes 29 = .ok (.iconst 1, 1) := by decide +kernel
theorem dX7_notes_30 : decode cX7_notes 30 = .ok (.goto 4, 3) := by decide +kernel
theorem dX7_notes_33 : decode cX7_notes 33 = .ok (.iconst 0, 1) := by decide +kernel
theorem dX7_notes_34 : decode cX7_notes 34 = .ok (.istore_n 3, 1) := by decide +kernel
theorem dX7_notes_35 : decode cX7_notes 35 = .ok (.iinc 4 1, 3) := by decide +kernel
theorem dX7_notes_38 : decode cX7_notes 38 = .ok (.goto (-33), 3) := by decide +kernel
theorem dX7_notes_41 : decode cX7_notes 41 = .ok (.iload_n 3, 1) := by decide +kernel
theorem dX7_notes_42 : decode cX7_notes 42 = .ok (.ifCond .ne 33, 3) := by decide +kernel
theorem dX7_notes_45 : decode cX7_notes 45 = .ok (.aload_n 0, 1) := by decide +kernel
theorem dX7_notes_46 : decode cX7_notes 46 = .ok (.getfield 73, 3) := by decide +kernel
theorem dX7_notes_49 : decode cX7_notes 49 = .ok (.aload_n 0, 1) := by decide +kernel
theorem dX7_notes_50 : decode cX7_notes 50 = .ok (.getfield 175, 3) := by decide +kernel
theorem dX7_notes_53 : decode cX7_notes 53 = .ok (.iload_n 1, 1) := by decide +kernel
theorem dX7_notes_54 : decode cX7_notes 54 = .ok (.iastore, 1) := by decide +kernel
theorem dX7_notes_55 : decode cX7_notes 55 = .ok (.aload_n 0, 1) := by decide +kernel
theorem dX7_notes_56 : decode cX7_notes 56 = .ok (.getfield 76, 3) := by decide +kernel
theorem dX7_notes_59 : decode cX7_notes 59 = .ok (.aload_n 0, 1) := by decide +kernel
theorem dX7_notes_60 : decode cX7_notes 60 = .ok (.getfield 175, 3) := by decide +kernel
theorem dX7_notes_63 : decode cX7_notes 63 = .ok (.iload_n 2, 1) := by decide +kernel
theorem dX7_notes_64 : decode cX7_notes 64 = .ok (.iastore, 1) := by decide +kernel
theorem dX7_notes_65 : decode cX7_notes 65 = .ok (.aload_n 0, 1) := by decide +kernel
theorem dX7_notes_66 : decode cX7_notes 66 = .ok (.dup, 1) := by decide +kernel
theorem dX7_notes_67 : decode cX7_notes 67 = .ok (.getfield 175, 3) := by decide +kernel
theorem dX7_notes_70 : decode cX7_notes 70 = .ok (.iconst 1, 1) := by decide +kernel
theorem dX7_notes_71 : decode cX7_notes 71 = .ok (.iadd, 1) := by decide +kernel
theorem dX7_notes_72 : decode cX7_notes 72 = .ok (.putfield 175, 3) := by decide +kernel
theorem dX7_notes_75 : decode cX7_notes 75 = .ok (.return_, 1) := by decide +kernel
theorem dX7_isOfRing_0 : decode cX7_isOfRing 0 = .ok (.iconst 0, 1) := by decide +kernel
theorem dX7_isOfRing_1 : decode cX7_isOfRing 1 = .ok (.istore_n 2, 1) := by decide +kernel
theorem dX7_isOfRing_2 : decode cX7_isOfRing 2 = .ok (.iload_n 1, 1) := by decide +kernel
theorem dX7_isOfRing_3 : decode cX7_isOfRing 3 = .ok (.istore_n 3, 1) := by decide +kernel
theorem dX7_isOfRing_4 : decode cX7_isOfRing 4 = .ok (.iload_n 3, 1) := by decide +kernel
theorem dX7_isOfRing_5 : decode cX7_isOfRing 5 = .ok (.invokestatic 34, 3) := by decide +kernel
theorem dX7_isOfRing_8 : decode cX7_isOfRing 8 = .ok (.ifCond .eq 37, 3) := by decide +kernel
theorem dX7_isOfRing_11 : decode cX7_isOfRing 11 = .ok (.iload_n 2, 1) := by decide +kernel
theorem dX7_isOfRing_12 : decode cX7_isOfRing 12 = .ok (.ifCond .ne 15, 3) := by decide +kernel
theorem dX7_isOfRing_15 : decode cX7_isOfRing 15 = .ok (.aload_n 0, 1) := by decide +kernel
theorem dX7_isOfRing_16 : decode cX7_isOfRing 16 = .ok (.getfield 24, 3) := by decide +kernel
theorem dX7_isOfRing_19 : decode cX7_isOfRing 19 = .ok (.iload_n 3, 1) := by decide +kernel
theorem dX7_isOfRing_20 : decode cX7_isOfRing 20 = .ok (.iconst 2, 1) := by decide +kernel
theorem dX7_isOfRing_21 : decode cX7_isOfRing 21 = .ok (.idiv, 1) := by decide +kernel
theorem dX7_isOfRing_22 : decode cX7_isOfRing 22 = .ok (.iaload, 1) := by decide +kernel
theorem dX7_isOfRing_23 : decode cX7_isOfRing 23 = .ok (.iconst 1, 1) := by decide +kernel
theorem dX7_isOfRing_24 : decode cX7_isOfRing 24 = .ok (.if_icmp .ne 7, 3) := by decide +kernel
theorem dX7_isOfRing_27 : decode cX7_isOfRing 27 = .ok (.iconst 1, 1) := by decide +kernel
theorem dX7_isOfRing_28 : decode cX7_isOfRing 28 = .ok (.goto 4, 3) := by decide +kernel
theorem dX7_isOfRing_31 : decode cX7_isOfRing 31 = .ok (.iconst 0, 1) := by decide +kernel
theorem dX7_isOfRing_32 : decode cX7_isOfRing 32 = .ok (.istore_n 2, 1) := by decide +kernel
theorem dX7_isOfRing_33 : decode cX7_isOfRing 33 = .ok (.aload_n 0, 1) := by decide +kernel
theorem dX7_isOfRing_34 : decode cX7_isOfRing 34 = .ok (.getfield 30, 3) := by decide +kernel
theorem dX7_isOfRing_37 : decode cX7_isOfRing 37 = .ok (.iload_n 3, 1) := by decide +kernel
theorem dX7_isOfRing_38 : decode cX7_isOfRing 38 = .ok (.iconst 2, 1) := by decide +kernel
theorem dX7_isOfRing_39 : decode cX7_isOfRing 39 = .ok (.idiv, 1) := by decide +kernel
theorem dX7_isOfRing_40 : decode cX7_isOfRing 40 = .ok (.iaload, 1) := by decide +kernel
theorem dX7_isOfRing_41 : decode cX7_isOfRing 41 = .ok (.istore_n 3, 1) := by decide +kernel
theorem dX7_isOfRing_42 : decode cX7_isOfRing 42 = .ok (.goto (-38), 3) := by decide +kernel
theorem dX7_isOfRing_45 : decode cX7_isOfRing 45 = .ok (.iload_n 2, 1) := by decide +kernel
theorem dX7_isOfRing_46 : decode cX7_isOfRing 46 = .ok (.ireturn, 1) := by decide +kernel
theorem dX7_runs_0 : decode cX7_runs 0 = .ok (.iconst (-1), 1) := by decide +kernel
theorem dX7_runs_1 : decode cX7_runs 1 = .ok (.istore_n 2, 1) := by decide +kernel
theorem dX7_runs_2 : decode cX7_runs 2 = .ok (.iload_n 2, 1) := by decide +kernel
theorem dX7_runs_3 : decode cX7_runs 3 = .ok (.ifCond .ge 49, 3) := by decide +kernel
theorem dX7_runs_6 : decode cX7_runs 6 = .ok (.aload_n 0, 1) := by decide +kernel
theorem dX7_runs_7 : decode cX7_runs 7 = .ok (.dup, 1) := by decide +kernel
theorem dX7_runs_8 : decode cX7_runs 8 = .ok (.getfield 178, 3) := by decide +kernel
theorem dX7_runs_11 : decode cX7_runs 11 = .ok (.iconst 1, 1) := by decide +kernel
theorem dX7_runs_12 : decode cX7_runs 12 = .ok (.iadd, 1) := by decide +kernel
theorem dX7_runs_13 : decode cX7_runs 13 = .ok (.putfield 178, 3) := by decide +kernel
theorem dX7_runs_16 : decode cX7_runs 16 = .ok (.aload_n 0, 1) := by decide +kernel
theorem dX7_runs_17 : decode cX7_runs 17 = .ok (.iconst 0, 1) := by decide +kernel
theorem dX7_runs_18 : decode cX7_runs 18 = .ok (.putfield 175, 3) := by decide +kernel
theorem dX7_runs_21 : decode cX7_runs 21 = .ok (.aload_n 0, 1) := by decide +kernel
theorem dX7_runs_22 : decode cX7_runs 22 = .ok (.iload_n 1, 1) := by decide +kernel
theorem dX7_runs_23 : decode cX7_runs 23 = .ok (.invokevirtual 181, 3) := by decide +kernel
theorem dX7_runs_26 : decode cX7_runs 26 = .ok (.istore_n 2, 1) := by decide +kernel
theorem dX7_runs_27 : decode cX7_runs 27 = .ok (.iload_n 2, 1) := by decide +kernel
theorem dX7_runs_28 : decode cX7_runs 28 = .ok (.ifCond .ge (-26), 3) := by decide +kernel
theorem dX7_runs_31 : decode cX7_runs 31 = .ok (.aload_n 0, 1) := by decide +kernel
theorem dX7_runs_32 : decode cX7_runs 32 = .ok (.dup, 1) := by decide +kernel
theorem dX7_runs_33 : decode cX7_runs 33 = .ok (.getfield 184, 3) := by decide +kernel
theorem dX7_runs_36 : decode cX7_runs 36 = .ok (.iconst 1, 1) := by decide +kernel
theorem dX7_runs_37 : decode cX7_runs 37 = .ok (.iadd, 1) := by decide +kernel
theorem dX7_runs_38 : decode cX7_runs 38 = .ok (.putfield 184, 3) := by decide +kernel
theorem dX7_runs_41 : decode cX7_runs 41 = .ok (.aload_n 0, 1) := by decide +kernel
theorem dX7_runs_42 : decode cX7_runs 42 = .ok (.bipush (-10), 2) := by decide +kernel
theorem dX7_runs_44 : decode cX7_runs 44 = .ok (.iload_n 2, 1) := by decide +kernel
theorem dX7_runs_45 : decode cX7_runs 45 = .ok (.isub, 1) := by decide +kernel
theorem dX7_runs_46 : decode cX7_runs 46 = .ok (.invokevirtual 172, 3) := by decide +kernel
theorem dX7_runs_49 : decode cX7_runs 49 = .ok (.goto (-47), 3) := by decide +kernel
theorem dX7_runs_52 : decode cX7_runs 52 = .ok (.aload_n 0, 1) := by decide +kernel
theorem dX7_runs_53 : decode cX7_runs 53 = .ok (.iload_n 1, 1) := by decide +kernel
theorem dX7_runs_54 : decode cX7_runs 54 = .ok (.invokevirtual 98, 3) := by decide +kernel
theorem dX7_runs_57 : decode cX7_runs 57 = .ok (.istore_n 3, 1) := by decide +kernel
theorem dX7_runs_58 : decode cX7_runs 58 = .ok (.aload_n 0, 1) := by decide +kernel
theorem dX7_runs_59 : decode cX7_runs 59 = .ok (.iload_n 2, 1) := by decide +kernel
theorem dX7_runs_60 : decode cX7_runs 60 = .ok (.invokevirtual 187, 3) := by decide +kernel
theorem dX7_runs_63 : decode cX7_runs 63 = .ok (.istore 4, 2) := by decide +kernel
theorem dX7_runs_65 : decode cX7_runs 65 = .ok (.aload_n 0, 1) := by decide +kernel
theorem dX7_runs_66 : decode cX7_runs 66 = .ok (.getfield 48, 3) := by decide +kernel
theorem dX7_runs_69 : decode cX7_runs 69 = .ok (.iload_n 3, 1) := by decide +kernel
theorem dX7_runs_70 : decode cX7_runs 70 = .ok (.iload 4, 2) := by decide +kernel
theorem dX7_runs_72 : decode cX7_runs 72 = .ok (.ifCond .eq 7, 3) := by decide +kernel
theorem dX7_runs_75 : decode cX7_runs 75 = .ok (.iconst (-1), 1) := by decide +kernel
theorem dX7_runs_76 : decode cX7_runs 76 = .ok (.goto 7, 3) := by decide +kernel
theorem dX7_runs_79 : decode cX7_runs 79 = .ok (.aload_n 0, 1) := by decide +kernel
theorem dX7_runs_80 : decode cX7_runs 80 = .ok (.getfield 175, 3) := by decide +kernel
theorem dX7_runs_83 : decode cX7_runs 83 = .ok (.iastore, 1) := by decide +kernel
theorem dX7_runs_84 : decode cX7_runs 84 = .ok (.iconst 0, 1) := by decide +kernel
theorem dX7_runs_85 : decode cX7_runs 85 = .ok (.istore 5, 2) := by decide +kernel
theorem dX7_runs_87 : decode cX7_runs 87 = .ok (.iload 5, 2) := by decide +kernel
theorem dX7_runs_89 : decode cX7_runs 89 = .ok (.aload_n 0, 1) := by decide +kernel
theorem dX7_runs_90 : decode cX7_runs 90 = .ok (.getfield 175, 3) := by decide +kernel
theorem dX7_runs_93 : decode cX7_runs 93 = .ok (.if_icmp .ge 51, 3) := by decide +kernel
theorem dX7_runs_96 : decode cX7_runs 96 = .ok (.iload 4, 2) := by decide +kernel
theorem dX7_runs_98 : decode cX7_runs 98 = .ok (.ifCond .ne 46, 3) := by decide +kernel
theorem dX7_runs_101 : decode cX7_runs 101 = .ok (.aload_n 0, 1) := by decide +kernel
theorem dX7_runs_102 : decode cX7_runs 102 = .ok (.getfield 48, 3) := by decide +kernel
theorem dX7_runs_105 : decode cX7_runs 105 = .ok (.iload_n 3, 1) := by decide +kernel
theorem dX7_runs_106 : decode cX7_runs 106 = .ok (.iconst 1, 1) := by decide +kernel
theorem dX7_runs_107 : decode cX7_runs 107 = .ok (.iadd, 1) := by decide +kernel
theorem dX7_runs_108 : decode cX7_runs 108 = .ok (.iload 5, 2) := by decide +kernel
theorem dX7_runs_110 : decode cX7_runs 110 = .ok (.iadd, 1) := by decide +kernel
theorem dX7_runs_111 : decode cX7_runs 111 = .ok (.aload_n 0, 1) := by decide +kernel
theorem dX7_runs_112 : decode cX7_runs 112 = .ok (.getfield 73, 3) := by decide +kernel
theorem dX7_runs_115 : decode cX7_runs 115 = .ok (.iload 5, 2) := by decide +kernel
theorem dX7_runs_117 : decode cX7_runs 117 = .ok (.iaload, 1) := by decide +kernel
theorem dX7_runs_118 : decode cX7_runs 118 = .ok (.iastore, 1) := by decide +kernel
theorem dX7_runs_119 : decode cX7_runs 119 = .ok (.aload_n 0, 1) := by decide +kernel
theorem dX7_runs_120 : decode cX7_runs 120 = .ok (.getfield 48, 3) := by decide +kernel
theorem dX7_runs_123 : decode cX7_runs 123 = .ok (.iload_n 3, 1) := by decide +kernel
theorem dX7_runs_124 : decode cX7_runs 124 = .ok (.bipush 13, 2) := by decide +kernel
theorem dX7_runs_126 : decode cX7_runs 126 = .ok (.iadd, 1) := by decide +kernel
theorem dX7_runs_127 : decode cX7_runs 127 = .ok (.iload 5, 2) := by decide +kernel
theorem dX7_runs_129 : decode cX7_runs 129 = .ok (.iadd, 1) := by decide +kernel
theorem dX7_runs_130 : decode cX7_runs 130 = .ok (.aload_n 0, 1) := by decide +kernel
theorem dX7_runs_131 : decode cX7_runs 131 = .ok (.getfield 76, 3) := by decide +kernel
theorem dX7_runs_134 : decode cX7_runs 134 = .ok (.iload 5, 2) := by decide +kernel
theorem dX7_runs_136 : decode cX7_runs 136 = .ok (.iaload, 1) := by decide +kernel
theorem dX7_runs_137 : decode cX7_runs 137 = .ok (.iastore, 1) := by decide +kernel
theorem dX7_runs_138 : decode cX7_runs 138 = .ok (.iinc 5 1, 3) := by decide +kernel
theorem dX7_runs_141 : decode cX7_runs 141 = .ok (.goto (-54), 3) := by decide +kernel
theorem dX7_runs_144 : decode cX7_runs 144 = .ok (.iload_n 2, 1) := by decide +kernel
theorem dX7_runs_145 : decode cX7_runs 145 = .ok (.ireturn, 1) := by decide +kernel
theorem dX7_goes_0 : decode cX7_goes 0 = .ok (.lconst 0, 1) := by decide +kernel
theorem dX7_goes_1 : decode cX7_goes 1 = .ok (.lstore_n 2, 1) := by decide +kernel
theorem dX7_goes_2 : decode cX7_goes 2 = .ok (.aload_n 0, 1) := by decide +kernel
theorem dX7_goes_3 : decode cX7_goes 3 = .ok (.iload_n 1, 1) := by decide +kernel
theorem dX7_goes_4 : decode cX7_goes 4 = .ok (.iconst 0, 1) := by decide +kernel
theorem dX7_goes_5 : decode cX7_goes 5 = .ok (.invokevirtual 140, 3) := by decide +kernel
theorem dX7_goes_8 : decode cX7_goes 8 = .ok (.istore 4, 2) := by decide +kernel
theorem dX7_goes_10 : decode cX7_goes 10 = .ok (.iconst 0, 1) := by decide +kernel
theorem dX7_goes_11 : decode cX7_goes 11 = .ok (.istore 5, 2) := by decide +kernel
theorem dX7_goes_13 : decode cX7_goes 13 = .ok (.iload 5, 2) := by decide +kernel
theorem dX7_goes_15 : decode cX7_goes 15 = .ok (.iload 4, 2) := by decide +kernel
theorem dX7_goes_17 : decode cX7_goes 17 = .ok (.if_icmp .ge 341, 3) := by decide +kernel
theorem dX7_goes_20 : decode cX7_goes 20 = .ok (.aload_n 0, 1) := by decide +kernel
theorem dX7_goes_21 : decode cX7_goes 21 = .ok (.iload_n 1, 1) := by decide +kernel
theorem dX7_goes_22 : decode cX7_goes 22 = .ok (.iconst 1, 1) := by decide +kernel
theorem dX7_goes_23 : decode cX7_goes 23 = .ok (.iconst 2, 1) := by decide +kernel
theorem dX7_goes_24 : decode cX7_goes 24 = .ok (.iload 5, 2) := by decide +kernel
theorem dX7_goes_26 : decode cX7_goes 26 = .ok (.imul, 1) := by decide +kernel
theorem dX7_goes_27 : decode cX7_goes 27 = .ok (.iadd, 1) := by decide +kernel
theorem dX7_goes_28 : decode cX7_goes 28 = .ok (.invokevirtual 140, 3) := by decide +kernel
theorem dX7_goes_31 : decode cX7_goes 31 = .ok (.istore 6, 2) := by decide +kernel
theorem dX7_goes_33 : decode cX7_goes 33 = .ok (.aload_n 0, 1) := by decide +kernel
theorem dX7_goes_34 : decode cX7_goes 34 = .ok (.iload_n 1, 1) := by decide +kernel
theorem dX7_goes_35 : decode cX7_goes 35 = .ok (.iconst 2, 1) := by decide +kernel
theorem dX7_goes_36 : decode cX7_goes 36 = .ok (.iconst 2, 1) := by decide +kernel
theorem dX7_goes_37 : decode cX7_goes 37 = .ok (.iload 5, 2) := by decide +kernel
theorem dX7_goes_39 : decode cX7_goes 39 = .ok (.imul, 1) := by decide +kernel
theorem dX7_goes_40 : decode cX7_goes 40 = .ok (.iadd, 1) := by decide +kernel
theorem dX7_goes_41 : decode cX7_goes 41 = .ok (.invokevirtual 140, 3) := by decide +kernel
theorem dX7_goes_44 : decode cX7_goes 44 = .ok (.istore 7, 2) := by decide +kernel
theorem dX7_goes_46 : decode cX7_goes 46 = .ok (.iload 7, 2) := by decide +kernel
theorem dX7_goes_48 : decode cX7_goes 48 = .ok (.i2l, 1) := by decide +kernel
theorem dX7_goes_49 : decode cX7_goes 49 = .ok (.lstore 8, 2) := by decide +kernel
theorem dX7_goes_51 : decode cX7_goes 51 = .ok (.iload 6, 2) := by decide +kernel
theorem dX7_goes_53 : decode cX7_goes 53 = .ok (.invokestatic 123, 3) := by decide +kernel
theorem dX7_goes_56 : decode cX7_goes 56 = .ok (.ifCond .eq 89, 3) := by decide +kernel
theorem dX7_goes_59 : decode cX7_goes 59 = .ok (.iload 7, 2) := by decide +kernel
theorem dX7_goes_61 : decode cX7_goes 61 = .ok (.invokestatic 108, 3) := by decide +kernel
theorem dX7_goes_64 : decode cX7_goes 64 = .ok (.ifCond .ne 23, 3) := by decide +kernel
theorem dX7_goes_67 : decode cX7_goes 67 = .ok (.aload_n 0, 1) := by decide +kernel
theorem dX7_goes_68 : decode cX7_goes 68 = .ok (.getfield 64, 3) := by decide +kernel
theorem dX7_goes_71 : decode cX7_goes 71 = .ok (.iload 7, 2) := by decide +kernel
theorem dX7_goes_73 : decode cX7_goes 73 = .ok (.baload, 1) := by decide +kernel
theorem dX7_goes_74 : decode cX7_goes 74 = .ok (.ifCond .eq 13, 3) := by decide +kernel
theorem dX7_goes_77 : decode cX7_goes 77 = .ok (.aload_n 0, 1) := by decide +kernel
theorem dX7_goes_78 : decode cX7_goes 78 = .ok (.iload_n 1, 1) := by decide +kernel
theorem dX7_goes_79 : decode cX7_goes 79 = .ok (.iconst 1, 1) := by decide +kernel
theorem dX7_goes_80 : decode cX7_goes 80 = .ok (.iload 5, 2) := by decide +kernel
theorem dX7_goes_82 : decode cX7_goes 82 = .ok (.iconst (-1), 1) := by decide +kernel
theorem dX7_goes_83 : decode cX7_goes 83 = .ok (.invokevirtual 104, 3) := by decide +kernel
theorem dX7_goes_86 : decode cX7_goes 86 = .ok (.ireturn, 1) := by decide +kernel
theorem dX7_goes_87 : decode cX7_goes 87 = .ok (.aload_n 0, 1) := by decide +kernel
theorem dX7_goes_88 : decode cX7_goes 88 = .ok (.iload 7, 2) := by decide +kernel
theorem dX7_goes_90 : decode cX7_goes 90 = .ok (.invokevirtual 169, 3) := by decide +kernel
theorem dX7_goes_93 : decode cX7_goes 93 = .ok (.ifCond .ne 9, 3) := by decide +kernel
theorem dX7_goes_96 : decode cX7_goes 96 = .ok (.bipush (-10), 2) := by decide +kernel
theorem dX7_goes_98 : decode cX7_goes 98 = .ok (.iload 7, 2) := by decide +kernel
theorem dX7_goes_100 : decode cX7_goes 100 = .ok (.isub, 1) := by decide +kernel
theorem dX7_goes_101 : decode cX7_goes 101 = .ok (.ireturn, 1) := by decide +kernel
theorem dX7_goes_102 : decode cX7_goes 102 = .ok (.aload_n 0, 1) := by decide +kernel
theorem dX7_goes_103 : decode cX7_goes 103 = .ok (.iload 7, 2) := by decide +kernel
theorem dX7_goes_105 : decode cX7_goes 105 = .ok (.invokevirtual 156, 3) := by decide +kernel
theorem dX7_goes_108 : decode cX7_goes 108 = .ok (.istore 10, 2) := by decide +kernel
theorem dX7_goes_110 : decode cX7_goes 110 = .ok (.aload_n 0, 1) := by decide +kernel
theorem dX7_goes_111 : decode cX7_goes 111 = .ok (.iload 7, 2) := by decide +kernel
theorem dX7_goes_113 : decode cX7_goes 113 = .ok (.iload 10, 2) := by decide +kernel
theorem dX7_goes_115 : decode cX7_goes 115 = .ok (.invokevirtual 190, 3) := by decide +kernel
theorem dX7_goes_118 : decode cX7_goes 118 = .ok (.iload 10, 2) := by decide +kernel
theorem dX7_goes_120 : decode cX7_goes 120 = .ok (.invokestatic 34, 3) := by decide +kernel
theorem dX7_goes_123 : decode cX7_goes 123 = .ok (.ifCond .eq 14, 3) := by decide +kernel
theorem dX7_goes_126 : decode cX7_goes 126 = .ok (.aload_n 0, 1) := by decide +kernel
theorem dX7_goes_127 : decode cX7_goes 127 = .ok (.iload_n 1, 1) := by decide +kernel
theorem dX7_goes_128 : decode cX7_goes 128 = .ok (.iconst 5, 1) := by decide +kernel
theorem dX7_goes_129 : decode cX7_goes 129 = .ok (.iload 5, 2) := by decide +kernel
theorem dX7_goes_131 : decode cX7_goes 131 = .ok (.iload 10, 2) := by decide +kernel
theorem dX7_goes_133 : decode cX7_goes 133 = .ok (.invokevirtual 104, 3) := by decide +kernel
theorem dX7_goes_136 : decode cX7_goes 136 = .ok (.ireturn, 1) := by decide +kernel
theorem dX7_goes_137 : decode cX7_goes 137 = .ok (.iload 10, 2) := by decide +kernel
theorem dX7_goes_139 : decode cX7_goes 139 = .ok (.invokestatic 38, 3) := by decide +kernel
theorem dX7_goes_142 : decode cX7_goes 142 = .ok (.i2l, 1) := by decide +kernel
theorem dX7_goes_143 : decode cX7_goes 143 = .ok (.lstore 8, 2) := by decide +kernel
theorem dX7_goes_145 : decode cX7_goes 145 = .ok (.lload 8, 2) := by decide +kernel
theorem dX7_goes_147 : decode cX7_goes 147 = .ok (.lconst 0, 1) := by decide +kernel
theorem dX7_goes_148 : decode cX7_goes 148 = .ok (.lcmp, 1) := by decide +kernel
theorem dX7_goes_149 : decode cX7_goes 149 = .ok (.ifCond .ne 27, 3) := by decide +kernel
theorem dX7_goes_152 : decode cX7_goes 152 = .ok (.iload 6, 2) := by decide +kernel
theorem dX7_goes_154 : decode cX7_goes 154 = .ok (.bipush 47, 2) := by decide +kernel
theorem dX7_goes_156 : decode cX7_goes 156 = .ok (.if_icmp .eq 10, 3) := by decide +kernel
theorem dX7_goes_159 : decode cX7_goes 159 = .ok (.iload 6, 2) := by decide +kernel
theorem dX7_goes_161 : decode cX7_goes 161 = .ok (.bipush 37, 2) := by decide +kernel
theorem dX7_goes_163 : decode cX7_goes 163 = .ok (.if_icmp .ne 13, 3) := by decide +kernel
theorem dX7_goes_166 : decode cX7_goes 166 = .ok (.aload_n 0, 1) := by decide +kernel
theorem dX7_goes_167 : decode cX7_goes 167 = .ok (.iload_n 1, 1) := by decide +kernel
theorem dX7_goes_168 : decode cX7_goes 168 = .ok (.iconst 2, 1) := by decide +kernel
theorem dX7_goes_169 : decode cX7_goes 169 = .ok (.iload 5, 2) := by decide +kernel
theorem dX7_goes_171 : decode cX7_goes 171 = .ok (.iconst (-1), 1) := by decide +kernel
theorem dX7_goes_172 : decode cX7_goes 172 = .ok (.invokevirtual 104, 3) := by decide +kernel
theorem dX7_goes_175 : decode cX7_goes 175 = .ok (.ireturn, 1) := by decide +kernel
theorem dX7_goes_176 : decode cX7_goes 176 = .ok (.iload 6, 2) := by decide +kernel
theorem dX7_goes_178 : decode cX7_goes 178 = .ok (.bipush 33, 2) := by decide +kernel
theorem dX7_goes_180 : decode cX7_goes 180 = .ok (.if_icmp .ne 21, 3) := by decide +kernel
theorem dX7_goes_183 : decode cX7_goes 183 = .ok (.lload_n 2, 1) := by decide +kernel
theorem dX7_goes_184 : decode cX7_goes 184 = .ok (.iload 7, 2) := by decide +kernel
theorem dX7_goes_186 : decode cX7_goes 186 = .ok (.i2l, 1) := by decide +kernel
theorem dX7_goes_187 : decode cX7_goes 187 = .ok (.lcmp, 1) := by decide +kernel
theorem dX7_goes_188 : decode cX7_goes 188 = .ok (.ifCond .le 13, 3) := by decide +kernel
theorem dX7_goes_191 : decode cX7_goes 191 = .ok (.aload_n 0, 1) := by decide +kernel
theorem dX7_goes_192 : decode cX7_goes 192 = .ok (.iload_n 1, 1) := by decide +kernel
theorem dX7_goes_193 : decode cX7_goes 193 = .ok (.iconst 4, 1) := by decide +kernel
theorem dX7_goes_194 : decode cX7_goes 194 = .ok (.iload 5, 2) := by decide +kernel
theorem dX7_goes_196 : decode cX7_goes 196 = .ok (.iconst (-1), 1) := by decide +kernel
theorem dX7_goes_197 : decode cX7_goes 197 = .ok (.invokevirtual 104, 3) := by decide +kernel
theorem dX7_goes_200 : decode cX7_goes 200 = .ok (.ireturn, 1) := by decide +kernel
theorem dX7_goes_201 : decode cX7_goes 201 = .ok (.iload 5, 2) := by decide +kernel
theorem dX7_goes_203 : decode cX7_goes 203 = .ok (.iload 6, 2) := by decide +kernel
theorem dX7_goes_205 : decode cX7_goes 205 = .ok (.bipush 63, 2) := by decide +kernel
theorem dX7_goes_207 : decode cX7_goes 207 = .ok (.if_icmp .ne 9, 3) := by decide +kernel
theorem dX7_goes_210 : decode cX7_goes 210 = .ok (.lload_n 2, 1) := by decide +kernel
theorem dX7_goes_211 : decode cX7_goes 211 = .ok (.lconst 0, 1) := by decide +kernel
theorem dX7_goes_212 : decode cX7_goes 212 = .ok (.lcmp, 1) := by decide +kernel
theorem dX7_goes_213 : decode cX7_goes 213 = .ok (.ifCond .eq 16, 3) := by decide +kernel
theorem dX7_goes_216 : decode cX7_goes 216 = .ok (.iload 6, 2) := by decide +kernel
theorem dX7_goes_218 : decode cX7_goes 218 = .ok (.bipush 94, 2) := by decide +kernel
theorem dX7_goes_220 : decode cX7_goes 220 = .ok (.if_icmp .ne 14, 3) := by decide +kernel
theorem dX7_goes_223 : decode cX7_goes 223 = .ok (.lload_n 2, 1) := by decide +kernel
theorem dX7_goes_224 : decode cX7_goes 224 = .ok (.lconst 0, 1) := by decide +kernel
theorem dX7_goes_225 : decode cX7_goes 225 = .ok (.lcmp, 1) := by decide +kernel
theorem dX7_goes_226 : decode cX7_goes 226 = .ok (.ifCond .ge 8, 3) := by decide +kernel
theorem dX7_goes_229 : decode cX7_goes 229 = .ok (.iload 7, 2) := by decide +kernel
theorem dX7_goes_231 : decode cX7_goes 231 = .ok (.goto 4, 3) := by decide +kernel
theorem dX7_goes_234 : decode cX7_goes 234 = .ok (.iconst 0, 1) := by decide +kernel
theorem dX7_goes_235 : decode cX7_goes 235 = .ok (.iadd, 1) := by decide +kernel
theorem dX7_goes_236 : decode cX7_goes 236 = .ok (.istore 5, 2) := by decide +kernel
theorem dX7_goes_238 : decode cX7_goes 238 = .ok (.iload 6, 2) := by decide +kernel
theorem dX7_goes_240 : decode cX7_goes 240 = .ok (.bipush 43, 2) := by decide +kernel
theorem dX7_goes_242 : decode cX7_goes 242 = .ok (.if_icmp .ne 10, 3) := by decide +kernel
theorem dX7_goes_245 : decode cX7_goes 245 = .ok (.lload_n 2, 1) := by decide +kernel
theorem dX7_goes_246 : decode cX7_goes 246 = .ok (.lload 8, 2) := by decide +kernel
theorem dX7_goes_248 : decode cX7_goes 248 = .ok (.ladd, 1) := by decide +kernel
theorem dX7_goes_249 : decode cX7_goes 249 = .ok (.goto 79, 3) := by decide +kernel
theorem dX7_goes_252 : decode cX7_goes 252 = .ok (.iload 6, 2) := by decide +kernel
theorem dX7_goes_254 : decode cX7_goes 254 = .ok (.bipush 45, 2) := by decide +kernel
theorem dX7_goes_256 : decode cX7_goes 256 = .ok (.if_icmp .ne 10, 3) := by decide +kernel
theorem dX7_goes_259 : decode cX7_goes 259 = .ok (.lload_n 2, 1) := by decide +kernel
theorem dX7_goes_260 : decode cX7_goes 260 = .ok (.lload 8, 2) := by decide +kernel
theorem dX7_goes_262 : decode cX7_goes 262 = .ok (.lsub, 1) := by decide +kernel
theorem dX7_goes_263 : decode cX7_goes 263 = .ok (.goto 65, 3) := by decide +kernel
theorem dX7_goes_266 : decode cX7_goes 266 = .ok (.iload 6, 2) := by decide +kernel
theorem dX7_goes_268 : decode cX7_goes 268 = .ok (.bipush 42, 2) := by decide +kernel
theorem dX7_goes_270 : decode cX7_goes 270 = .ok (.if_icmp .ne 10, 3) := by decide +kernel
theorem dX7_goes_273 : decode cX7_goes 273 = .ok (.lload_n 2, 1) := by decide +kernel
theorem dX7_goes_274 : decode cX7_goes 274 = .ok (.lload 8, 2) := by decide +kernel
theorem dX7_goes_276 : decode cX7_goes 276 = .ok (.lmul, 1) := by decide +kernel
theorem dX7_goes_277 : decode cX7_goes 277 = .ok (.goto 51, 3) := by decide +kernel
theorem dX7_goes_280 : decode cX7_goes 280 = .ok (.iload 6, 2) := by decide +kernel
theorem dX7_goes_282 : decode cX7_goes 282 = .ok (.bipush 47, 2) := by decide +kernel
theorem dX7_goes_284 : decode cX7_goes 284 = .ok (.if_icmp .ne 10, 3) := by decide +kernel
theorem dX7_goes_287 : decode cX7_goes 287 = .ok (.lload_n 2, 1) := by decide +kernel
theorem dX7_goes_288 : decode cX7_goes 288 = .ok (.lload 8, 2) := by decide +kernel
theorem dX7_goes_290 : decode cX7_goes 290 = .ok (.ldiv, 1) := by decide +kernel
theorem dX7_goes_291 : decode cX7_goes 291 = .ok (.goto 37, 3) := by decide +kernel
theorem dX7_goes_294 : decode cX7_goes 294 = .ok (.iload 6, 2) := by decide +kernel
theorem dX7_goes_296 : decode cX7_goes 296 = .ok (.bipush 38, 2) := by decide +kernel
theorem dX7_goes_298 : decode cX7_goes 298 = .ok (.if_icmp .eq 10, 3) := by decide +kernel
theorem dX7_goes_301 : decode cX7_goes 301 = .ok (.iload 6, 2) := by decide +kernel
theorem dX7_goes_303 : decode cX7_goes 303 = .ok (.bipush 61, 2) := by decide +kernel
theorem dX7_goes_305 : decode cX7_goes 305 = .ok (.if_icmp .ne 8, 3) := by decide +kernel
theorem dX7_goes_308 : decode cX7_goes 308 = .ok (.lload 8, 2) := by decide +kernel
theorem dX7_goes_310 : decode cX7_goes 310 = .ok (.goto 18, 3) := by decide +kernel
theorem dX7_goes_313 : decode cX7_goes 313 = .ok (.iload 6, 2) := by decide +kernel
theorem dX7_goes_315 : decode cX7_goes 315 = .ok (.bipush 37, 2) := by decide +kernel
theorem dX7_goes_317 : decode cX7_goes 317 = .ok (.if_icmp .ne 10, 3) := by decide +kernel
theorem dX7_goes_320 : decode cX7_goes 320 = .ok (.lload_n 2, 1) := by decide +kernel
theorem dX7_goes_321 : decode cX7_goes 321 = .ok (.lload 8, 2) := by decide +kernel
theorem dX7_goes_323 : decode cX7_goes 323 = .ok (.lrem, 1) := by decide +kernel
theorem dX7_goes_324 : decode cX7_goes 324 = .ok (.goto 4, 3) := by decide +kernel
theorem dX7_goes_327 : decode cX7_goes 327 = .ok (.lload_n 2, 1) := by decide +kernel
theorem dX7_goes_328 : decode cX7_goes 328 = .ok (.lstore_n 2, 1) := by decide +kernel
theorem dX7_goes_329 : decode cX7_goes 329 = .ok (.lload_n 2, 1) := by decide +kernel
theorem dX7_goes_330 : decode cX7_goes 330 = .ok (.ldc2_w 111, 3) := by decide +kernel
theorem dX7_goes_333 : decode cX7_goes 333 = .ok (.ldc2_w 113, 3) := by decide +kernel
theorem dX7_goes_336 : decode cX7_goes 336 = .ok (.invokestatic 7, 3) := by decide +kernel
theorem dX7_goes_339 : decode cX7_goes 339 = .ok (.ifCond .ne 13, 3) := by decide +kernel
theorem dX7_goes_342 : decode cX7_goes 342 = .ok (.aload_n 0, 1) := by decide +kernel
theorem dX7_goes_343 : decode cX7_goes 343 = .ok (.iload_n 1, 1) := by decide +kernel
theorem dX7_goes_344 : decode cX7_goes 344 = .ok (.iconst 3, 1) := by decide +kernel
theorem dX7_goes_345 : decode cX7_goes 345 = .ok (.iload 5, 2) := by decide +kernel
theorem dX7_goes_347 : decode cX7_goes 347 = .ok (.iconst (-1), 1) := by decide +kernel
theorem dX7_goes_348 : decode cX7_goes 348 = .ok (.invokevirtual 104, 3) := by decide +kernel
theorem dX7_goes_351 : decode cX7_goes 351 = .ok (.ireturn, 1) := by decide +kernel
theorem dX7_goes_352 : decode cX7_goes 352 = .ok (.iinc 5 1, 3) := by decide +kernel
theorem dX7_goes_355 : decode cX7_goes 355 = .ok (.goto (-342), 3) := by decide +kernel
theorem dX7_goes_358 : decode cX7_goes 358 = .ok (.lload_n 2, 1) := by decide +kernel
theorem dX7_goes_359 : decode cX7_goes 359 = .ok (.l2i, 1) := by decide +kernel
theorem dX7_goes_360 : decode cX7_goes 360 = .ok (.invokestatic 115, 3) := by decide +kernel
theorem dX7_goes_363 : decode cX7_goes 363 = .ok (.ireturn, 1) := by decide +kernel
theorem dX7_manyDone_0 : decode cX7_manyDone 0 = .ok (.iconst 0, 1) := by decide +kernel
theorem dX7_manyDone_1 : decode cX7_manyDone 1 = .ok (.istore_n 1, 1) := by decide +kernel
theorem dX7_manyDone_2 : decode cX7_manyDone 2 = .ok (.bipush 8, 2) := by decide +kernel
theorem dX7_manyDone_4 : decode cX7_manyDone 4 = .ok (.istore_n 2, 1) := by decide +kernel
theorem dX7_manyDone_5 : decode cX7_manyDone 5 = .ok (.iload_n 2, 1) := by decide +kernel
theorem dX7_manyDone_6 : decode cX7_manyDone 6 = .ok (.bipush 24, 2) := by decide +kernel
theorem dX7_manyDone_8 : decode cX7_manyDone 8 = .ok (.if_icmp .ge 26, 3) := by decide +kernel
theorem dX7_manyDone_11 : decode cX7_manyDone 11 = .ok (.iload_n 1, 1) := by decide +kernel
theorem dX7_manyDone_12 : decode cX7_manyDone 12 = .ok (.aload_n 0, 1) := by decide +kernel
theorem dX7_manyDone_13 : decode cX7_manyDone 13 = .ok (.getfield 60, 3) := by decide +kernel
theorem dX7_manyDone_16 : decode cX7_manyDone 16 = .ok (.iload_n 2, 1) := by decide +kernel
theorem dX7_manyDone_17 : decode cX7_manyDone 17 = .ok (.baload, 1) := by decide +kernel
theorem dX7_manyDone_18 : decode cX7_manyDone 18 = .ok (.ifCond .eq 7, 3) := by decide +kernel
theorem dX7_manyDone_21 : decode cX7_manyDone 21 = .ok (.iconst 1, 1) := by decide +kernel
theorem dX7_manyDone_22 : decode cX7_manyDone 22 = .ok (.goto 4, 3) := by decide +kernel
theorem dX7_manyDone_25 : decode cX7_manyDone 25 = .ok (.iconst 0, 1) := by decide +kernel
theorem dX7_manyDone_26 : decode cX7_manyDone 26 = .ok (.iadd, 1) := by decide +kernel
theorem dX7_manyDone_27 : decode cX7_manyDone 27 = .ok (.istore_n 1, 1) := by decide +kernel
theorem dX7_manyDone_28 : decode cX7_manyDone 28 = .ok (.iinc 2 1, 3) := by decide +kernel
theorem dX7_manyDone_31 : decode cX7_manyDone 31 = .ok (.goto (-26), 3) := by decide +kernel
theorem dX7_manyDone_34 : decode cX7_manyDone 34 = .ok (.iload_n 1, 1) := by decide +kernel
theorem dX7_manyDone_35 : decode cX7_manyDone 35 = .ok (.ireturn, 1) := by decide +kernel
theorem dX7_built_0 : decode cX7_built 0 = .ok (.iconst 0, 1) := by decide +kernel
theorem dX7_built_1 : decode cX7_built 1 = .ok (.istore_n 3, 1) := by decide +kernel
theorem dX7_built_2 : decode cX7_built 2 = .ok (.iload_n 3, 1) := by decide +kernel
theorem dX7_built_3 : decode cX7_built 3 = .ok (.bipush 24, 2) := by decide +kernel
theorem dX7_built_5 : decode cX7_built 5 = .ok (.if_icmp .ge 23, 3) := by decide +kernel
theorem dX7_built_8 : decode cX7_built 8 = .ok (.aload_n 0, 1) := by decide +kernel
theorem dX7_built_9 : decode cX7_built 9 = .ok (.getfield 60, 3) := by decide +kernel
theorem dX7_built_12 : decode cX7_built 12 = .ok (.iload_n 3, 1) := by decide +kernel
theorem dX7_built_13 : decode cX7_built 13 = .ok (.iconst 0, 1) := by decide +kernel
theorem dX7_built_14 : decode cX7_built 14 = .ok (.bastore, 1) := by decide +kernel
theorem dX7_built_15 : decode cX7_built 15 = .ok (.aload_n 0, 1) := by decide +kernel
theorem dX7_built_16 : decode cX7_built 16 = .ok (.getfield 64, 3) := by decide +kernel
theorem dX7_built_19 : decode cX7_built 19 = .ok (.iload_n 3, 1) := by decide +kernel
theorem dX7_built_20 : decode cX7_built 20 = .ok (.iconst 0, 1) := by decide +kernel
theorem dX7_built_21 : decode cX7_built 21 = .ok (.bastore, 1) := by decide +kernel
theorem dX7_built_22 : decode cX7_built 22 = .ok (.iinc 3 1, 3) := by decide +kernel
theorem dX7_built_25 : decode cX7_built 25 = .ok (.goto (-23), 3) := by decide +kernel
theorem dX7_built_28 : decode cX7_built 28 = .ok (.aload_n 0, 1) := by decide +kernel
theorem dX7_built_29 : decode cX7_built 29 = .ok (.iconst 0, 1) := by decide +kernel
theorem dX7_built_30 : decode cX7_built 30 = .ok (.putfield 144, 3) := by decide +kernel
theorem dX7_built_33 : decode cX7_built 33 = .ok (.aload_n 0, 1) := by decide +kernel
theorem dX7_built_34 : decode cX7_built 34 = .ok (.bipush (-5), 2) := by decide +kernel
theorem dX7_built_36 : decode cX7_built 36 = .ok (.putfield 70, 3) := by decide +kernel
theorem dX7_built_39 : decode cX7_built 39 = .ok (.iconst 0, 1) := by decide +kernel
theorem dX7_built_40 : decode cX7_built 40 = .ok (.istore_n 3, 1) := by decide +kernel
theorem dX7_built_41 : decode cX7_built 41 = .ok (.iload_n 3, 1) := by decide +kernel
theorem dX7_built_42 : decode cX7_built 42 = .ok (.bipush 16, 2) := by decide +kernel
theorem dX7_built_44 : decode cX7_built 44 = .ok (.if_icmp .ge 74, 3) := by decide +kernel
theorem dX7_built_47 : decode cX7_built 47 = .ok (.aload_n 0, 1) := by decide +kernel
theorem dX7_built_48 : decode cX7_built 48 = .ok (.getfield 70, 3) := by decide +kernel
theorem dX7_built_51 : decode cX7_built 51 = .ok (.ifCond .ge 67, 3) := by decide +kernel
theorem dX7_built_54 : decode cX7_built 54 = .ok (.bipush 8, 2) := by decide +kernel
theorem dX7_built_56 : decode cX7_built 56 = .ok (.iload_n 3, 1) := by decide +kernel
theorem dX7_built_57 : decode cX7_built 57 = .ok (.iadd, 1) := by decide +kernel
theorem dX7_built_58 : decode cX7_built 58 = .ok (.istore 4, 2) := by decide +kernel
theorem dX7_built_60 : decode cX7_built 60 = .ok (.iload_n 1, 1) := by decide +kernel
theorem dX7_built_61 : decode cX7_built 61 = .ok (.iload_n 3, 1) := by decide +kernel
theorem dX7_built_62 : decode cX7_built 62 = .ok (.ishr, 1) := by decide +kernel
theorem dX7_built_63 : decode cX7_built 63 = .ok (.iconst 1, 1) := by decide +kernel
theorem dX7_built_64 : decode cX7_built 64 = .ok (.iand, 1) := by decide +kernel
theorem dX7_built_65 : decode cX7_built 65 = .ok (.iconst 1, 1) := by decide +kernel
theorem dX7_built_66 : decode cX7_built 66 = .ok (.if_icmp .ne 46, 3) := by decide +kernel
theorem dX7_built_69 : decode cX7_built 69 = .ok (.aload_n 0, 1) := by decide +kernel
theorem dX7_built_70 : decode cX7_built 70 = .ok (.getfield 60, 3) := by decide +kernel
theorem dX7_built_73 : decode cX7_built 73 = .ok (.iload 4, 2) := by decide +kernel
theorem dX7_built_75 : decode cX7_built 75 = .ok (.baload, 1) := by decide +kernel
theorem dX7_built_76 : decode cX7_built 76 = .ok (.ifCond .ne 9, 3) := by decide +kernel
theorem dX7_built_79 : decode cX7_built 79 = .ok (.aload_n 0, 1) := by decide +kernel
theorem dX7_built_80 : decode cX7_built 80 = .ok (.iload 4, 2) := by decide +kernel
theorem dX7_built_82 : decode cX7_built 82 = .ok (.invokevirtual 172, 3) := by decide +kernel
theorem dX7_built_85 : decode cX7_built 85 = .ok (.aload_n 0, 1) := by decide +kernel
theorem dX7_built_86 : decode cX7_built 86 = .ok (.iload_n 2, 1) := by decide +kernel
theorem dX7_built_87 : decode cX7_built 87 = .ok (.ifCond .eq 20, 3) := by decide +kernel
theorem dX7_built_90 : decode cX7_built 90 = .ok (.aload_n 0, 1) := by decide +kernel
theorem dX7_built_91 : decode cX7_built 91 = .ok (.iload 4, 2) := by decide +kernel
theorem dX7_built_93 : decode cX7_built 93 = .ok (.invokevirtual 156, 3) := by decide +kernel
theorem dX7_built_96 : decode cX7_built 96 = .ok (.invokestatic 34, 3) := by decide +kernel
theorem dX7_built_99 : decode cX7_built 99 = .ok (.ifCond .eq 8, 3) := by decide +kernel
theorem dX7_built_102 : decode cX7_built 102 = .ok (.iload 4, 2) := by decide +kernel
theorem dX7_built_104 : decode cX7_built 104 = .ok (.goto 5, 3) := by decide +kernel
theorem dX7_built_107 : decode cX7_built 107 = .ok (.bipush (-5), 2) := by decide +kernel
theorem dX7_built_109 : decode cX7_built 109 = .ok (.putfield 70, 3) := by decide +kernel
theorem dX7_built_112 : decode cX7_built 112 = .ok (.iinc 3 1, 3) := by decide +kernel
theorem dX7_built_115 : decode cX7_built 115 = .ok (.goto (-74), 3) := by decide +kernel
theorem dX7_built_118 : decode cX7_built 118 = .ok (.aload_n 0, 1) := by decide +kernel
theorem dX7_built_119 : decode cX7_built 119 = .ok (.invokevirtual 194, 3) := by decide +kernel
theorem dX7_built_122 : decode cX7_built 122 = .ok (.ireturn, 1) := by decide +kernel
theorem dX7_build_0 : decode cX7_build 0 = .ok (.iload_n 1, 1) := by decide +kernel
theorem dX7_build_1 : decode cX7_build 1 = .ok (.invokestatic 101, 3) := by decide +kernel
theorem dX7_build_4 : decode cX7_build 4 = .ok (.ifCond .ne 5, 3) := by decide +kernel
theorem dX7_build_7 : decode cX7_build 7 = .ok (.iconst (-1), 1) := by decide +kernel
theorem dX7_build_8 : decode cX7_build 8 = .ok (.ireturn, 1) := by decide +kernel
theorem dX7_build_9 : decode cX7_build 9 = .ok (.aload_n 0, 1) := by decide +kernel
theorem dX7_build_10 : decode cX7_build 10 = .ok (.getfield 178, 3) := by decide +kernel
theorem dX7_build_13 : decode cX7_build 13 = .ok (.istore_n 2, 1) := by decide +kernel
theorem dX7_build_14 : decode cX7_build 14 = .ok (.aload_n 0, 1) := by decide +kernel
theorem dX7_build_15 : decode cX7_build 15 = .ok (.iconst 1, 1) := by decide +kernel
theorem dX7_build_16 : decode cX7_build 16 = .ok (.iload_n 1, 1) := by decide +kernel
theorem dX7_build_17 : decode cX7_build 17 = .ok (.bipush 8, 2) := by decide +kernel
theorem dX7_build_19 : decode cX7_build 19 = .ok (.isub, 1) := by decide +kernel
theorem dX7_build_20 : decode cX7_build 20 = .ok (.ishl, 1) := by decide +kernel
theorem dX7_build_21 : decode cX7_build 21 = .ok (.iconst 0, 1) := by decide +kernel
theorem dX7_build_22 : decode cX7_build 22 = .ok (.invokevirtual 197, 3) := by decide +kernel
theorem dX7_build_25 : decode cX7_build 25 = .ok (.pop, 1) := by decide +kernel
theorem dX7_build_26 : decode cX7_build 26 = .ok (.aload_n 0, 1) := by decide +kernel
theorem dX7_build_27 : decode cX7_build 27 = .ok (.getfield 178, 3) := by decide +kernel
theorem dX7_build_30 : decode cX7_build 30 = .ok (.iload_n 2, 1) := by decide +kernel
theorem dX7_build_31 : decode cX7_build 31 = .ok (.isub, 1) := by decide +kernel
theorem dX7_build_32 : decode cX7_build 32 = .ok (.ireturn, 1) := by decide +kernel
theorem dX7_all_0 : decode cX7_all 0 = .ok (.iload_n 1, 1) := by decide +kernel
theorem dX7_all_1 : decode cX7_all 1 = .ok (.i2l, 1) := by decide +kernel
theorem dX7_all_2 : decode cX7_all 2 = .ok (.lconst 0, 1) := by decide +kernel
theorem dX7_all_3 : decode cX7_all 3 = .ok (.lconst 1, 1) := by decide +kernel
theorem dX7_all_4 : decode cX7_all 4 = .ok (.invokestatic 7, 3) := by decide +kernel
theorem dX7_all_7 : decode cX7_all 7 = .ok (.ifCond .eq 22, 3) := by decide +kernel
theorem dX7_all_10 : decode cX7_all 10 = .ok (.aload_n 0, 1) := by decide +kernel
theorem dX7_all_11 : decode cX7_all 11 = .ok (.ldc 201, 2) := by decide +kernel
theorem dX7_all_13 : decode cX7_all 13 = .ok (.iload_n 1, 1) := by decide +kernel
theorem dX7_all_14 : decode cX7_all 14 = .ok (.iconst 1, 1) := by decide +kernel
theorem dX7_all_15 : decode cX7_all 15 = .ok (.if_icmp .ne 7, 3) := by decide +kernel
theorem dX7_all_18 : decode cX7_all 18 = .ok (.iconst 1, 1) := by decide +kernel
theorem dX7_all_19 : decode cX7_all 19 = .ok (.goto 4, 3) := by decide +kernel
theorem dX7_all_22 : decode cX7_all 22 = .ok (.iconst 0, 1) := by decide +kernel
theorem dX7_all_23 : decode cX7_all 23 = .ok (.invokevirtual 197, 3) := by decide +kernel
theorem dX7_all_26 : decode cX7_all 26 = .ok (.goto 4, 3) := by decide +kernel
theorem dX7_all_29 : decode cX7_all 29 = .ok (.iconst (-1), 1) := by decide +kernel
theorem dX7_all_30 : decode cX7_all 30 = .ok (.ireturn, 1) := by decide +kernel
theorem dX7_some_0 : decode cX7_some 0 = .ok (.iload_n 1, 1) := by decide +kernel
theorem dX7_some_1 : decode cX7_some 1 = .ok (.i2l, 1) := by decide +kernel
theorem dX7_some_2 : decode cX7_some 2 = .ok (.lconst 0, 1) := by decide +kernel
theorem dX7_some_3 : decode cX7_some 3 = .ok (.ldc2_w 202, 3) := by decide +kernel
theorem dX7_some_6 : decode cX7_some 6 = .ok (.invokestatic 7, 3) := by decide +kernel
theorem dX7_some_9 : decode cX7_some 9 = .ok (.ifCond .ne 6, 3) := by decide +kernel
theorem dX7_some_12 : decode cX7_some 12 = .ok (.bipush (-2), 2) := by decide +kernel
theorem dX7_some_14 : decode cX7_some 14 = .ok (.ireturn, 1) := by decide +kernel
theorem dX7_some_15 : decode cX7_some 15 = .ok (.iload_n 2, 1) := by decide +kernel
theorem dX7_some_16 : decode cX7_some 16 = .ok (.i2l, 1) := by decide +kernel
theorem dX7_some_17 : decode cX7_some 17 = .ok (.lconst 0, 1) := by decide +kernel
theorem dX7_some_18 : decode cX7_some 18 = .ok (.lconst 1, 1) := by decide +kernel
theorem dX7_some_19 : decode cX7_some 19 = .ok (.invokestatic 7, 3) := by decide +kernel
theorem dX7_some_22 : decode cX7_some 22 = .ok (.ifCond .eq 21, 3) := by decide +kernel
theorem dX7_some_25 : decode cX7_some 25 = .ok (.aload_n 0, 1) := by decide +kernel
theorem dX7_some_26 : decode cX7_some 26 = .ok (.iload_n 1, 1) := by decide +kernel
theorem dX7_some_27 : decode cX7_some 27 = .ok (.iload_n 2, 1) := by decide +kernel
theorem dX7_some_28 : decode cX7_some 28 = .ok (.iconst 1, 1) := by decide +kernel
theorem dX7_some_29 : decode cX7_some 29 = .ok (.if_icmp .ne 7, 3) := by decide +kernel
theorem dX7_some_32 : decode cX7_some 32 = .ok (.iconst 1, 1) := by decide +kernel
theorem dX7_some_33 : decode cX7_some 33 = .ok (.goto 4, 3) := by decide +kernel
theorem dX7_some_36 : decode cX7_some 36 = .ok (.iconst 0, 1) := by decide +kernel
theorem dX7_some_37 : decode cX7_some 37 = .ok (.invokevirtual 197, 3) := by decide +kernel
theorem dX7_some_40 : decode cX7_some 40 = .ok (.goto 4, 3) := by decide +kernel
theorem dX7_some_43 : decode cX7_some 43 = .ok (.iconst (-1), 1) := by decide +kernel
theorem dX7_some_44 : decode cX7_some 44 = .ok (.ireturn, 1) := by decide +kernel
theorem dX7_tried_0 : decode cX7_tried 0 = .ok (.iload_n 1, 1) := by decide +kernel
theorem dX7_tried_1 : decode cX7_tried 1 = .ok (.invokestatic 101, 3) := by decide +kernel
theorem dX7_tried_4 : decode cX7_tried 4 = .ok (.ifCond .eq 10, 3) := by decide +kernel
theorem dX7_tried_7 : decode cX7_tried 7 = .ok (.iload_n 2, 1) := by decide +kernel
theorem dX7_tried_8 : decode cX7_tried 8 = .ok (.invokestatic 108, 3) := by decide +kernel
theorem dX7_tried_11 : decode cX7_tried 11 = .ok (.ifCond .ne 5, 3) := by decide +kernel
theorem dX7_tried_14 : decode cX7_tried 14 = .ok (.iconst (-1), 1) := by decide +kernel
theorem dX7_tried_15 : decode cX7_tried 15 = .ok (.ireturn, 1) := by decide +kernel
theorem dX7_tried_16 : decode cX7_tried 16 = .ok (.iload_n 3, 1) := by decide +kernel
theorem dX7_tried_17 : decode cX7_tried 17 = .ok (.i2l, 1) := by decide +kernel
theorem dX7_tried_18 : decode cX7_tried 18 = .ok (.ldc2_w 111, 3) := by decide +kernel
theorem dX7_tried_21 : decode cX7_tried 21 = .ok (.ldc2_w 113, 3) := by decide +kernel
theorem dX7_tried_24 : decode cX7_tried 24 = .ok (.invokestatic 7, 3) := by decide +kernel
theorem dX7_tried_27 : decode cX7_tried 27 = .ok (.ifCond .ne 6, 3) := by decide +kernel
theorem dX7_tried_30 : decode cX7_tried 30 = .ok (.bipush (-2), 2) := by decide +kernel
theorem dX7_tried_32 : decode cX7_tried 32 = .ok (.ireturn, 1) := by decide +kernel
theorem dX7_tried_33 : decode cX7_tried 33 = .ok (.aload_n 0, 1) := by decide +kernel
theorem dX7_tried_34 : decode cX7_tried 34 = .ok (.getfield 48, 3) := by decide +kernel
theorem dX7_tried_37 : decode cX7_tried 37 = .ok (.aload_n 0, 1) := by decide +kernel
theorem dX7_tried_38 : decode cX7_tried 38 = .ok (.getfield 54, 3) := by decide +kernel
theorem dX7_tried_41 : decode cX7_tried 41 = .ok (.invokestatic 204, 3) := by decide +kernel
theorem dX7_tried_44 : decode cX7_tried 44 = .ok (.iconst 0, 1) := by decide +kernel
theorem dX7_tried_45 : decode cX7_tried 45 = .ok (.istore 4, 2) := by decide +kernel
theorem dX7_tried_47 : decode cX7_tried 47 = .ok (.iload 4, 2) := by decide +kernel
theorem dX7_tried_49 : decode cX7_tried 49 = .ok (.bipush 24, 2) := by decide +kernel
theorem dX7_tried_51 : decode cX7_tried 51 = .ok (.if_icmp .ge 23, 3) := by decide +kernel
theorem dX7_tried_54 : decode cX7_tried 54 = .ok (.aload_n 0, 1) := by decide +kernel
theorem dX7_tried_55 : decode cX7_tried 55 = .ok (.getfield 79, 3) := by decide +kernel
theorem dX7_tried_58 : decode cX7_tried 58 = .ok (.iload 4, 2) := by decide +kernel
theorem dX7_tried_60 : decode cX7_tried 60 = .ok (.aload_n 0, 1) := by decide +kernel
theorem dX7_tried_61 : decode cX7_tried 61 = .ok (.getfield 60, 3) := by decide +kernel
theorem dX7_tried_64 : decode cX7_tried 64 = .ok (.iload 4, 2) := by decide +kernel
theorem dX7_tried_66 : decode cX7_tried 66 = .ok (.baload, 1) := by decide +kernel
theorem dX7_tried_67 : decode cX7_tried 67 = .ok (.bastore, 1) := by decide +kernel
theorem dX7_tried_68 : decode cX7_tried 68 = .ok (.iinc 4 1, 3) := by decide +kernel
theorem dX7_tried_71 : decode cX7_tried 71 = .ok (.goto (-24), 3) := by decide +kernel
theorem dX7_tried_74 : decode cX7_tried 74 = .ok (.iconst 0, 1) := by decide +kernel
theorem dX7_tried_75 : decode cX7_tried 75 = .ok (.istore 4, 2) := by decide +kernel
theorem dX7_tried_77 : decode cX7_tried 77 = .ok (.iload 4, 2) := by decide +kernel
theorem dX7_tried_79 : decode cX7_tried 79 = .ok (.bipush 16, 2) := by decide +kernel
theorem dX7_tried_81 : decode cX7_tried 81 = .ok (.if_icmp .ge 23, 3) := by decide +kernel
theorem dX7_tried_84 : decode cX7_tried 84 = .ok (.aload_n 0, 1) := by decide +kernel
theorem dX7_tried_85 : decode cX7_tried 85 = .ok (.getfield 82, 3) := by decide +kernel
theorem dX7_tried_88 : decode cX7_tried 88 = .ok (.iload 4, 2) := by decide +kernel
theorem dX7_tried_90 : decode cX7_tried 90 = .ok (.aload_n 0, 1) := by decide +kernel
theorem dX7_tried_91 : decode cX7_tried 91 = .ok (.getfield 67, 3) := by decide +kernel
theorem dX7_tried_94 : decode cX7_tried 94 = .ok (.iload 4, 2) := by decide +kernel
theorem dX7_tried_96 : decode cX7_tried 96 = .ok (.iaload, 1) := by decide +kernel
theorem dX7_tried_97 : decode cX7_tried 97 = .ok (.iastore, 1) := by decide +kernel
theorem dX7_tried_98 : decode cX7_tried 98 = .ok (.iinc 4 1, 3) := by decide +kernel
theorem dX7_tried_101 : decode cX7_tried 101 = .ok (.goto (-24), 3) := by decide +kernel
theorem dX7_tried_104 : decode cX7_tried 104 = .ok (.aload_n 0, 1) := by decide +kernel
theorem dX7_tried_105 : decode cX7_tried 105 = .ok (.getfield 144, 3) := by decide +kernel
theorem dX7_tried_108 : decode cX7_tried 108 = .ok (.istore 4, 2) := by decide +kernel
theorem dX7_tried_110 : decode cX7_tried 110 = .ok (.aload_n 0, 1) := by decide +kernel
theorem dX7_tried_111 : decode cX7_tried 111 = .ok (.getfield 70, 3) := by decide +kernel
theorem dX7_tried_114 : decode cX7_tried 114 = .ok (.istore 5, 2) := by decide +kernel
theorem dX7_tried_116 : decode cX7_tried 116 = .ok (.aload_n 0, 1) := by decide +kernel
theorem dX7_tried_117 : decode cX7_tried 117 = .ok (.getfield 178, 3) := by decide +kernel
theorem dX7_tried_120 : decode cX7_tried 120 = .ok (.istore 6, 2) := by decide +kernel
theorem dX7_tried_122 : decode cX7_tried 122 = .ok (.aload_n 0, 1) := by decide +kernel
theorem dX7_tried_123 : decode cX7_tried 123 = .ok (.getfield 184, 3) := by decide +kernel
theorem dX7_tried_126 : decode cX7_tried 126 = .ok (.istore 7, 2) := by decide +kernel
theorem dX7_tried_128 : decode cX7_tried 128 = .ok (.aload_n 0, 1) := by decide +kernel
theorem dX7_tried_129 : decode cX7_tried 129 = .ok (.getfield 153, 3) := by decide +kernel
theorem dX7_tried_132 : decode cX7_tried 132 = .ok (.istore 8, 2) := by decide +kernel
theorem dX7_tried_134 : decode cX7_tried 134 = .ok (.aload_n 0, 1) := by decide +kernel
theorem dX7_tried_135 : decode cX7_tried 135 = .ok (.getfield 162, 3) := by decide +kernel
theorem dX7_tried_138 : decode cX7_tried 138 = .ok (.istore 9, 2) := by decide +kernel
theorem dX7_tried_140 : decode cX7_tried 140 = .ok (.aload_n 0, 1) := by decide +kernel
theorem dX7_tried_141 : decode cX7_tried 141 = .ok (.getfield 48, 3) := by decide +kernel
theorem dX7_tried_144 : decode cX7_tried 144 = .ok (.iload_n 2, 1) := by decide +kernel
theorem dX7_tried_145 : decode cX7_tried 145 = .ok (.iload_n 3, 1) := by decide +kernel
theorem dX7_tried_146 : decode cX7_tried 146 = .ok (.invokestatic 115, 3) := by decide +kernel
theorem dX7_tried_149 : decode cX7_tried 149 = .ok (.iastore, 1) := by decide +kernel
theorem dX7_tried_150 : decode cX7_tried 150 = .ok (.aload_n 0, 1) := by decide +kernel
theorem dX7_tried_151 : decode cX7_tried 151 = .ok (.iconst 1, 1) := by decide +kernel
theorem dX7_tried_152 : decode cX7_tried 152 = .ok (.iload_n 1, 1) := by decide +kernel
theorem dX7_tried_153 : decode cX7_tried 153 = .ok (.bipush 8, 2) := by decide +kernel
theorem dX7_tried_155 : decode cX7_tried 155 = .ok (.isub, 1) := by decide +kernel
theorem dX7_tried_156 : decode cX7_tried 156 = .ok (.ishl, 1) := by decide +kernel
theorem dX7_tried_157 : decode cX7_tried 157 = .ok (.iconst 0, 1) := by decide +kernel
theorem dX7_tried_158 : decode cX7_tried 158 = .ok (.invokevirtual 197, 3) := by decide +kernel
theorem dX7_tried_161 : decode cX7_tried 161 = .ok (.pop, 1) := by decide +kernel
theorem dX7_tried_162 : decode cX7_tried 162 = .ok (.aload_n 0, 1) := by decide +kernel
theorem dX7_tried_163 : decode cX7_tried 163 = .ok (.getfield 178, 3) := by decide +kernel
theorem dX7_tried_166 : decode cX7_tried 166 = .ok (.iload 6, 2) := by decide +kernel
theorem dX7_tried_168 : decode cX7_tried 168 = .ok (.isub, 1) := by decide +kernel
theorem dX7_tried_169 : decode cX7_tried 169 = .ok (.istore 10, 2) := by decide +kernel
theorem dX7_tried_171 : decode cX7_tried 171 = .ok (.aload_n 0, 1) := by decide +kernel
theorem dX7_tried_172 : decode cX7_tried 172 = .ok (.getfield 54, 3) := by decide +kernel
theorem dX7_tried_175 : decode cX7_tried 175 = .ok (.aload_n 0, 1) := by decide +kernel
theorem dX7_tried_176 : decode cX7_tried 176 = .ok (.getfield 48, 3) := by decide +kernel
theorem dX7_tried_179 : decode cX7_tried 179 = .ok (.invokestatic 204, 3) := by decide +kernel
theorem dX7_tried_182 : decode cX7_tried 182 = .ok (.iconst 0, 1) := by decide +kernel
theorem dX7_tried_183 : decode cX7_tried 183 = .ok (.istore 11, 2) := by decide +kernel
theorem dX7_tried_185 : decode cX7_tried 185 = .ok (.iload 11, 2) := by decide +kernel
theorem dX7_tried_187 : decode cX7_tried 187 = .ok (.bipush 24, 2) := by decide +kernel
theorem dX7_tried_189 : decode cX7_tried 189 = .ok (.if_icmp .ge 23, 3) := by decide +kernel
theorem dX7_tried_192 : decode cX7_tried 192 = .ok (.aload_n 0, 1) := by decide +kernel
theorem dX7_tried_193 : decode cX7_tried 193 = .ok (.getfield 60, 3) := by decide +kernel
theorem dX7_tried_196 : decode cX7_tried 196 = .ok (.iload 11, 2) := by decide +kernel
theorem dX7_tried_198 : decode cX7_tried 198 = .ok (.aload_n 0, 1) := by decide +kernel
theorem dX7_tried_199 : decode cX7_tried 199 = .ok (.getfield 79, 3) := by decide +kernel
theorem dX7_tried_202 : decode cX7_tried 202 = .ok (.iload 11, 2) := by decide +kernel
theorem dX7_tried_204 : decode cX7_tried 204 = .ok (.baload, 1) := by decide +kernel
theorem dX7_tried_205 : decode cX7_tried 205 = .ok (.bastore, 1) := by decide +kernel
theorem dX7_tried_206 : decode cX7_tried 206 = .ok (.iinc 11 1, 3) := by decide +kernel
theorem dX7_tried_209 : decode cX7_tried 209 = .ok (.goto (-24), 3) := by decide +kernel
theorem dX7_tried_212 : decode cX7_tried 212 = .ok (.iconst 0, 1) := by decide +kernel
theorem dX7_tried_213 : decode cX7_tried 213 = .ok (.istore 11, 2) := by decide +kernel
theorem dX7_tried_215 : decode cX7_tried 215 = .ok (.iload 11, 2) := by decide +kernel
theorem dX7_tried_217 : decode cX7_tried 217 = .ok (.bipush 16, 2) := by decide +kernel
theorem dX7_tried_219 : decode cX7_tried 219 = .ok (.if_icmp .ge 23, 3) := by decide +kernel
theorem dX7_tried_222 : decode cX7_tried 222 = .ok (.aload_n 0, 1) := by decide +kernel
theorem dX7_tried_223 : decode cX7_tried 223 = .ok (.getfield 67, 3) := by decide +kernel
theorem dX7_tried_226 : decode cX7_tried 226 = .ok (.iload 11, 2) := by decide +kernel
theorem dX7_tried_228 : decode cX7_tried 228 = .ok (.aload_n 0, 1) := by decide +kernel
theorem dX7_tried_229 : decode cX7_tried 229 = .ok (.getfield 82, 3) := by decide +kernel
theorem dX7_tried_232 : decode cX7_tried 232 = .ok (.iload 11, 2) := by decide +kernel
theorem dX7_tried_234 : decode cX7_tried 234 = .ok (.iaload, 1) := by decide +kernel
theorem dX7_tried_235 : decode cX7_tried 235 = .ok (.iastore, 1) := by decide +kernel
theorem dX7_tried_236 : decode cX7_tried 236 = .ok (.iinc 11 1, 3) := by decide +kernel
theorem dX7_tried_239 : decode cX7_tried 239 = .ok (.goto (-24), 3) := by decide +kernel
theorem dX7_tried_242 : decode cX7_tried 242 = .ok (.aload_n 0, 1) := by decide +kernel
theorem dX7_tried_243 : decode cX7_tried 243 = .ok (.iload 4, 2) := by decide +kernel
theorem dX7_tried_245 : decode cX7_tried 245 = .ok (.putfield 144, 3) := by decide +kernel
theorem dX7_tried_248 : decode cX7_tried 248 = .ok (.aload_n 0, 1) := by decide +kernel
theorem dX7_tried_249 : decode cX7_tried 249 = .ok (.iload 5, 2) := by decide +kernel
theorem dX7_tried_251 : decode cX7_tried 251 = .ok (.putfield 70, 3) := by decide +kernel
theorem dX7_tried_254 : decode cX7_tried 254 = .ok (.aload_n 0, 1) := by decide +kernel
theorem dX7_tried_255 : decode cX7_tried 255 = .ok (.iload 6, 2) := by decide +kernel
theorem dX7_tried_257 : decode cX7_tried 257 = .ok (.putfield 178, 3) := by decide +kernel
theorem dX7_tried_260 : decode cX7_tried 260 = .ok (.aload_n 0, 1) := by decide +kernel
theorem dX7_tried_261 : decode cX7_tried 261 = .ok (.iload 7, 2) := by decide +kernel
theorem dX7_tried_263 : decode cX7_tried 263 = .ok (.putfield 184, 3) := by decide +kernel
theorem dX7_tried_266 : decode cX7_tried 266 = .ok (.aload_n 0, 1) := by decide +kernel
theorem dX7_tried_267 : decode cX7_tried 267 = .ok (.iload 8, 2) := by decide +kernel
theorem dX7_tried_269 : decode cX7_tried 269 = .ok (.putfield 153, 3) := by decide +kernel
theorem dX7_tried_272 : decode cX7_tried 272 = .ok (.aload_n 0, 1) := by decide +kernel
theorem dX7_tried_273 : decode cX7_tried 273 = .ok (.iload 9, 2) := by decide +kernel
theorem dX7_tried_275 : decode cX7_tried 275 = .ok (.putfield 162, 3) := by decide +kernel
theorem dX7_tried_278 : decode cX7_tried 278 = .ok (.iload 10, 2) := by decide +kernel
theorem dX7_tried_280 : decode cX7_tried 280 = .ok (.ireturn, 1) := by decide +kernel
theorem dX7_result_0 : decode cX7_result 0 = .ok (.iload_n 1, 1) := by decide +kernel
theorem dX7_result_1 : decode cX7_result 1 = .ok (.invokestatic 208, 3) := by decide +kernel
theorem dX7_result_4 : decode cX7_result 4 = .ok (.ifCond .eq 15, 3) := by decide +kernel
theorem dX7_result_7 : decode cX7_result 7 = .ok (.aload_n 0, 1) := by decide +kernel
theorem dX7_result_8 : decode cX7_result 8 = .ok (.aload_n 0, 1) := by decide +kernel
theorem dX7_result_9 : decode cX7_result 9 = .ok (.iload_n 1, 1) := by decide +kernel
theorem dX7_result_10 : decode cX7_result 10 = .ok (.invokevirtual 156, 3) := by decide +kernel
theorem dX7_result_13 : decode cX7_result 13 = .ok (.invokevirtual 211, 3) := by decide +kernel
theorem dX7_result_16 : decode cX7_result 16 = .ok (.goto 4, 3) := by decide +kernel
theorem dX7_result_19 : decode cX7_result 19 = .ok (.iconst (-1), 1) := by decide +kernel
theorem dX7_result_20 : decode cX7_result 20 = .ok (.ireturn, 1) := by decide +kernel
theorem dX7_causeOf_0 : decode cX7_causeOf 0 = .ok (.iload_n 1, 1) := by decide +kernel
theorem dX7_causeOf_1 : decode cX7_causeOf 1 = .ok (.invokestatic 34, 3) := by decide +kernel
theorem dX7_causeOf_4 : decode cX7_causeOf 4 = .ok (.ifCond .eq 7, 3) := by decide +kernel
theorem dX7_causeOf_7 : decode cX7_causeOf 7 = .ok (.iload_n 1, 1) := by decide +kernel
theorem dX7_causeOf_8 : decode cX7_causeOf 8 = .ok (.goto 4, 3) := by decide +kernel
theorem dX7_causeOf_11 : decode cX7_causeOf 11 = .ok (.iconst (-1), 1) := by decide +kernel
theorem dX7_causeOf_12 : decode cX7_causeOf 12 = .ok (.istore_n 3, 1) := by decide +kernel
theorem dX7_causeOf_13 : decode cX7_causeOf 13 = .ok (.iconst 0, 1) := by decide +kernel
theorem dX7_causeOf_14 : decode cX7_causeOf 14 = .ok (.istore 4, 2) := by decide +kernel
theorem dX7_causeOf_16 : decode cX7_causeOf 16 = .ok (.iload 4, 2) := by decide +kernel
theorem dX7_causeOf_18 : decode cX7_causeOf 18 = .ok (.iload_n 2, 1) := by decide +kernel
theorem dX7_causeOf_19 : decode cX7_causeOf 19 = .ok (.if_icmp .ge 22, 3) := by decide +kernel
theorem dX7_causeOf_22 : decode cX7_causeOf 22 = .ok (.iload_n 3, 1) := by decide +kernel
theorem dX7_causeOf_23 : decode cX7_causeOf 23 = .ok (.ifCond .lt 18, 3) := by decide +kernel
theorem dX7_causeOf_26 : decode cX7_causeOf 26 = .ok (.aload_n 0, 1) := by decide +kernel
theorem dX7_causeOf_27 : decode cX7_causeOf 27 = .ok (.getfield 30, 3) := by decide +kernel
theorem dX7_causeOf_30 : decode cX7_causeOf 30 = .ok (.iload_n 3, 1) := by decide +kernel
theorem dX7_causeOf_31 : decode cX7_causeOf 31 = .ok (.iconst 2, 1) := by decide +kernel
theorem dX7_causeOf_32 : decode cX7_causeOf 32 = .ok (.idiv, 1) := by decide +kernel
theorem dX7_causeOf_33 : decode cX7_causeOf 33 = .ok (.iaload, 1) := by decide +kernel
theorem dX7_causeOf_34 : decode cX7_causeOf 34 = .ok (.istore_n 3, 1) := by decide +kernel
theorem dX7_causeOf_35 : decode cX7_causeOf 35 = .ok (.iinc 4 1, 3) := by decide +kernel
theorem dX7_causeOf_38 : decode cX7_causeOf 38 = .ok (.goto (-22), 3) := by decide +kernel
theorem dX7_causeOf_41 : decode cX7_causeOf 41 = .ok (.iload_n 3, 1) := by decide +kernel
theorem dX7_causeOf_42 : decode cX7_causeOf 42 = .ok (.ireturn, 1) := by decide +kernel
theorem dX7_failure_0 : decode cX7_failure 0 = .ok (.iload_n 1, 1) := by decide +kernel
theorem dX7_failure_1 : decode cX7_failure 1 = .ok (.invokestatic 101, 3) := by decide +kernel
theorem dX7_failure_4 : decode cX7_failure 4 = .ok (.ifCond .eq 15, 3) := by decide +kernel
theorem dX7_failure_7 : decode cX7_failure 7 = .ok (.iload_n 3, 1) := by decide +kernel
theorem dX7_failure_8 : decode cX7_failure 8 = .ok (.i2l, 1) := by decide +kernel
theorem dX7_failure_9 : decode cX7_failure 9 = .ok (.lconst 0, 1) := by decide +kernel
theorem dX7_failure_10 : decode cX7_failure 10 = .ok (.ldc2_w 214, 3) := by decide +kernel
theorem dX7_failure_13 : decode cX7_failure 13 = .ok (.invokestatic 7, 3) := by decide +kernel
theorem dX7_failure_16 : decode cX7_failure 16 = .ok (.ifCond .ne 5, 3) := by decide +kernel
theorem dX7_failure_19 : decode cX7_failure 19 = .ok (.iconst (-1), 1) := by decide +kernel
theorem dX7_failure_20 : decode cX7_failure 20 = .ok (.ireturn, 1) := by decide +kernel
theorem dX7_failure_21 : decode cX7_failure 21 = .ok (.iload_n 2, 1) := by decide +kernel
theorem dX7_failure_22 : decode cX7_failure 22 = .ok (.ifCond .ge 7, 3) := by decide +kernel
theorem dX7_failure_25 : decode cX7_failure 25 = .ok (.iconst (-1), 1) := by decide +kernel
theorem dX7_failure_26 : decode cX7_failure 26 = .ok (.goto 13, 3) := by decide +kernel
theorem dX7_failure_29 : decode cX7_failure 29 = .ok (.aload_n 0, 1) := by decide +kernel
theorem dX7_failure_30 : decode cX7_failure 30 = .ok (.aload_n 0, 1) := by decide +kernel
theorem dX7_failure_31 : decode cX7_failure 31 = .ok (.iload_n 1, 1) := by decide +kernel
theorem dX7_failure_32 : decode cX7_failure 32 = .ok (.invokevirtual 156, 3) := by decide +kernel
theorem dX7_failure_35 : decode cX7_failure 35 = .ok (.iload_n 2, 1) := by decide +kernel
theorem dX7_failure_36 : decode cX7_failure 36 = .ok (.invokevirtual 216, 3) := by decide +kernel
theorem dX7_failure_39 : decode cX7_failure 39 = .ok (.istore 4, 2) := by decide +kernel
theorem dX7_failure_41 : decode cX7_failure 41 = .ok (.iload 4, 2) := by decide +kernel
theorem dX7_failure_43 : decode cX7_failure 43 = .ok (.ifCond .ge 6, 3) := by decide +kernel
theorem dX7_failure_46 : decode cX7_failure 46 = .ok (.bipush (-3), 2) := by decide +kernel
theorem dX7_failure_48 : decode cX7_failure 48 = .ok (.ireturn, 1) := by decide +kernel
theorem dX7_failure_49 : decode cX7_failure 49 = .ok (.iload_n 3, 1) := by decide +kernel
theorem dX7_failure_50 : decode cX7_failure 50 = .ok (.ifCond .ne 15, 3) := by decide +kernel
theorem dX7_failure_53 : decode cX7_failure 53 = .ok (.aload_n 0, 1) := by decide +kernel
theorem dX7_failure_54 : decode cX7_failure 54 = .ok (.getfield 20, 3) := by decide +kernel
theorem dX7_failure_57 : decode cX7_failure 57 = .ok (.iload 4, 2) := by decide +kernel
theorem dX7_failure_59 : decode cX7_failure 59 = .ok (.iconst 2, 1) := by decide +kernel
theorem dX7_failure_60 : decode cX7_failure 60 = .ok (.idiv, 1) := by decide +kernel
theorem dX7_failure_61 : decode cX7_failure 61 = .ok (.iaload, 1) := by decide +kernel
theorem dX7_failure_62 : decode cX7_failure 62 = .ok (.goto 29, 3) := by decide +kernel
theorem dX7_failure_65 : decode cX7_failure 65 = .ok (.iload_n 3, 1) := by decide +kernel
theorem dX7_failure_66 : decode cX7_failure 66 = .ok (.iconst 1, 1) := by decide +kernel
theorem dX7_failure_67 : decode cX7_failure 67 = .ok (.if_icmp .ne 15, 3) := by decide +kernel
theorem dX7_failure_70 : decode cX7_failure 70 = .ok (.aload_n 0, 1) := by decide +kernel
theorem dX7_failure_71 : decode cX7_failure 71 = .ok (.getfield 24, 3) := by decide +kernel
theorem dX7_failure_74 : decode cX7_failure 74 = .ok (.iload 4, 2) := by decide +kernel
theorem dX7_failure_76 : decode cX7_failure 76 = .ok (.iconst 2, 1) := by decide +kernel
theorem dX7_failure_77 : decode cX7_failure 77 = .ok (.idiv, 1) := by decide +kernel
theorem dX7_failure_78 : decode cX7_failure 78 = .ok (.iaload, 1) := by decide +kernel
theorem dX7_failure_79 : decode cX7_failure 79 = .ok (.goto 12, 3) := by decide +kernel
theorem dX7_failure_82 : decode cX7_failure 82 = .ok (.aload_n 0, 1) := by decide +kernel
theorem dX7_failure_83 : decode cX7_failure 83 = .ok (.getfield 27, 3) := by decide +kernel
theorem dX7_failure_86 : decode cX7_failure 86 = .ok (.iload 4, 2) := by decide +kernel
theorem dX7_failure_88 : decode cX7_failure 88 = .ok (.iconst 2, 1) := by decide +kernel
theorem dX7_failure_89 : decode cX7_failure 89 = .ok (.idiv, 1) := by decide +kernel
theorem dX7_failure_90 : decode cX7_failure 90 = .ok (.iaload, 1) := by decide +kernel
theorem dX7_failure_91 : decode cX7_failure 91 = .ok (.ireturn, 1) := by decide +kernel
theorem dX7_causes_0 : decode cX7_causes 0 = .ok (.iload_n 1, 1) := by decide +kernel
theorem dX7_causes_1 : decode cX7_causes 1 = .ok (.invokestatic 101, 3) := by decide +kernel
theorem dX7_causes_4 : decode cX7_causes 4 = .ok (.ifCond .ne 5, 3) := by decide +kernel
theorem dX7_causes_7 : decode cX7_causes 7 = .ok (.iconst (-1), 1) := by decide +kernel
theorem dX7_causes_8 : decode cX7_causes 8 = .ok (.ireturn, 1) := by decide +kernel
theorem dX7_causes_9 : decode cX7_causes 9 = .ok (.bipush (-5), 2) := by decide +kernel
theorem dX7_causes_11 : decode cX7_causes 11 = .ok (.istore_n 2, 1) := by decide +kernel
theorem dX7_causes_12 : decode cX7_causes 12 = .ok (.aload_n 0, 1) := by decide +kernel
theorem dX7_causes_13 : decode cX7_causes 13 = .ok (.aload_n 0, 1) := by decide +kernel
theorem dX7_causes_14 : decode cX7_causes 14 = .ok (.iload_n 1, 1) := by decide +kernel
theorem dX7_causes_15 : decode cX7_causes 15 = .ok (.invokevirtual 156, 3) := by decide +kernel
theorem dX7_causes_18 : decode cX7_causes 18 = .ok (.iconst 0, 1) := by decide +kernel
theorem dX7_causes_19 : decode cX7_causes 19 = .ok (.invokevirtual 216, 3) := by decide +kernel
theorem dX7_causes_22 : decode cX7_causes 22 = .ok (.istore_n 3, 1) := by decide +kernel
theorem dX7_causes_23 : decode cX7_causes 23 = .ok (.iload_n 3, 1) := by decide +kernel
theorem dX7_causes_24 : decode cX7_causes 24 = .ok (.ifCond .lt 27, 3) := by decide +kernel
theorem dX7_causes_27 : decode cX7_causes 27 = .ok (.iload_n 2, 1) := by decide +kernel
theorem dX7_causes_28 : decode cX7_causes 28 = .ok (.ifCond .ge 7, 3) := by decide +kernel
theorem dX7_causes_31 : decode cX7_causes 31 = .ok (.iconst 0, 1) := by decide +kernel
theorem dX7_causes_32 : decode cX7_causes 32 = .ok (.goto 6, 3) := by decide +kernel
theorem dX7_causes_35 : decode cX7_causes 35 = .ok (.iload_n 2, 1) := by decide +kernel
theorem dX7_causes_36 : decode cX7_causes 36 = .ok (.iconst 1, 1) := by decide +kernel
theorem dX7_causes_37 : decode cX7_causes 37 = .ok (.iadd, 1) := by decide +kernel
theorem dX7_causes_38 : decode cX7_causes 38 = .ok (.istore_n 2, 1) := by decide +kernel
theorem dX7_causes_39 : decode cX7_causes 39 = .ok (.aload_n 0, 1) := by decide +kernel
theorem dX7_causes_40 : decode cX7_causes 40 = .ok (.getfield 30, 3) := by decide +kernel
theorem dX7_causes_43 : decode cX7_causes 43 = .ok (.iload_n 3, 1) := by decide +kernel
theorem dX7_causes_44 : decode cX7_causes 44 = .ok (.iconst 2, 1) := by decide +kernel
theorem dX7_causes_45 : decode cX7_causes 45 = .ok (.idiv, 1) := by decide +kernel
theorem dX7_causes_46 : decode cX7_causes 46 = .ok (.iaload, 1) := by decide +kernel
theorem dX7_causes_47 : decode cX7_causes 47 = .ok (.istore_n 3, 1) := by decide +kernel
theorem dX7_causes_48 : decode cX7_causes 48 = .ok (.goto (-25), 3) := by decide +kernel
theorem dX7_causes_51 : decode cX7_causes 51 = .ok (.iload_n 2, 1) := by decide +kernel
theorem dX7_causes_52 : decode cX7_causes 52 = .ok (.ireturn, 1) := by decide +kernel
theorem dX7_root_0 : decode cX7_root 0 = .ok (.iload_n 1, 1) := by decide +kernel
theorem dX7_root_1 : decode cX7_root 1 = .ok (.invokestatic 101, 3) := by decide +kernel
theorem dX7_root_4 : decode cX7_root 4 = .ok (.ifCond .ne 5, 3) := by decide +kernel
theorem dX7_root_7 : decode cX7_root 7 = .ok (.iconst (-1), 1) := by decide +kernel
theorem dX7_root_8 : decode cX7_root 8 = .ok (.ireturn, 1) := by decide +kernel
theorem dX7_root_9 : decode cX7_root 9 = .ok (.bipush (-5), 2) := by decide +kernel
theorem dX7_root_11 : decode cX7_root 11 = .ok (.istore_n 2, 1) := by decide +kernel
theorem dX7_root_12 : decode cX7_root 12 = .ok (.aload_n 0, 1) := by decide +kernel
theorem dX7_root_13 : decode cX7_root 13 = .ok (.aload_n 0, 1) := by decide +kernel
theorem dX7_root_14 : decode cX7_root 14 = .ok (.iload_n 1, 1) := by decide +kernel
theorem dX7_root_15 : decode cX7_root 15 = .ok (.invokevirtual 156, 3) := by decide +kernel
theorem dX7_root_18 : decode cX7_root 18 = .ok (.iconst 0, 1) := by decide +kernel
theorem dX7_root_19 : decode cX7_root 19 = .ok (.invokevirtual 216, 3) := by decide +kernel
theorem dX7_root_22 : decode cX7_root 22 = .ok (.istore_n 3, 1) := by decide +kernel
theorem dX7_root_23 : decode cX7_root 23 = .ok (.iload_n 3, 1) := by decide +kernel
theorem dX7_root_24 : decode cX7_root 24 = .ok (.ifCond .lt 24, 3) := by decide +kernel
theorem dX7_root_27 : decode cX7_root 27 = .ok (.aload_n 0, 1) := by decide +kernel
theorem dX7_root_28 : decode cX7_root 28 = .ok (.getfield 20, 3) := by decide +kernel
theorem dX7_root_31 : decode cX7_root 31 = .ok (.iload_n 3, 1) := by decide +kernel
theorem dX7_root_32 : decode cX7_root 32 = .ok (.iconst 2, 1) := by decide +kernel
theorem dX7_root_33 : decode cX7_root 33 = .ok (.idiv, 1) := by decide +kernel
theorem dX7_root_34 : decode cX7_root 34 = .ok (.iaload, 1) := by decide +kernel
theorem dX7_root_35 : decode cX7_root 35 = .ok (.istore_n 2, 1) := by decide +kernel
theorem dX7_root_36 : decode cX7_root 36 = .ok (.aload_n 0, 1) := by decide +kernel
theorem dX7_root_37 : decode cX7_root 37 = .ok (.getfield 30, 3) := by decide +kernel
theorem dX7_root_40 : decode cX7_root 40 = .ok (.iload_n 3, 1) := by decide +kernel
theorem dX7_root_41 : decode cX7_root 41 = .ok (.iconst 2, 1) := by decide +kernel
theorem dX7_root_42 : decode cX7_root 42 = .ok (.idiv, 1) := by decide +kernel
theorem dX7_root_43 : decode cX7_root 43 = .ok (.iaload, 1) := by decide +kernel
theorem dX7_root_44 : decode cX7_root 44 = .ok (.istore_n 3, 1) := by decide +kernel
theorem dX7_root_45 : decode cX7_root 45 = .ok (.goto (-22), 3) := by decide +kernel
theorem dX7_root_48 : decode cX7_root 48 = .ok (.iload_n 2, 1) := by decide +kernel
theorem dX7_root_49 : decode cX7_root 49 = .ok (.ireturn, 1) := by decide +kernel
theorem dX7_blamed_0 : decode cX7_blamed 0 = .ok (.iload_n 1, 1) := by decide +kernel
theorem dX7_blamed_1 : decode cX7_blamed 1 = .ok (.invokestatic 208, 3) := by decide +kernel
theorem dX7_blamed_4 : decode cX7_blamed 4 = .ok (.ifCond .ne 5, 3) := by decide +kernel
theorem dX7_blamed_7 : decode cX7_blamed 7 = .ok (.iconst (-1), 1) := by decide +kernel
theorem dX7_blamed_8 : decode cX7_blamed 8 = .ok (.ireturn, 1) := by decide +kernel
theorem dX7_blamed_9 : decode cX7_blamed 9 = .ok (.iconst 0, 1) := by decide +kernel
theorem dX7_blamed_10 : decode cX7_blamed 10 = .ok (.istore_n 2, 1) := by decide +kernel
theorem dX7_blamed_11 : decode cX7_blamed 11 = .ok (.iconst 0, 1) := by decide +kernel
theorem dX7_blamed_12 : decode cX7_blamed 12 = .ok (.istore_n 3, 1) := by decide +kernel
theorem dX7_blamed_13 : decode cX7_blamed 13 = .ok (.iload_n 3, 1) := by decide +kernel
theorem dX7_blamed_14 : decode cX7_blamed 14 = .ok (.bipush 16, 2) := by decide +kernel
theorem dX7_blamed_16 : decode cX7_blamed 16 = .ok (.if_icmp .ge 66, 3) := by decide +kernel
theorem dX7_blamed_19 : decode cX7_blamed 19 = .ok (.aload_n 0, 1) := by decide +kernel
theorem dX7_blamed_20 : decode cX7_blamed 20 = .ok (.aload_n 0, 1) := by decide +kernel
theorem dX7_blamed_21 : decode cX7_blamed 21 = .ok (.bipush 8, 2) := by decide +kernel
theorem dX7_blamed_23 : decode cX7_blamed 23 = .ok (.iload_n 3, 1) := by decide +kernel
theorem dX7_blamed_24 : decode cX7_blamed 24 = .ok (.iadd, 1) := by decide +kernel
theorem dX7_blamed_25 : decode cX7_blamed 25 = .ok (.invokevirtual 156, 3) := by decide +kernel
theorem dX7_blamed_28 : decode cX7_blamed 28 = .ok (.iconst 0, 1) := by decide +kernel
theorem dX7_blamed_29 : decode cX7_blamed 29 = .ok (.invokevirtual 216, 3) := by decide +kernel
theorem dX7_blamed_32 : decode cX7_blamed 32 = .ok (.istore 4, 2) := by decide +kernel
theorem dX7_blamed_34 : decode cX7_blamed 34 = .ok (.iload 4, 2) := by decide +kernel
theorem dX7_blamed_36 : decode cX7_blamed 36 = .ok (.ifCond .lt 40, 3) := by decide +kernel
theorem dX7_blamed_39 : decode cX7_blamed 39 = .ok (.iload_n 2, 1) := by decide +kernel
theorem dX7_blamed_40 : decode cX7_blamed 40 = .ok (.aload_n 0, 1) := by decide +kernel
theorem dX7_blamed_41 : decode cX7_blamed 41 = .ok (.getfield 20, 3) := by decide +kernel
theorem dX7_blamed_44 : decode cX7_blamed 44 = .ok (.iload 4, 2) := by decide +kernel
theorem dX7_blamed_46 : decode cX7_blamed 46 = .ok (.iconst 2, 1) := by decide +kernel
theorem dX7_blamed_47 : decode cX7_blamed 47 = .ok (.idiv, 1) := by decide +kernel
theorem dX7_blamed_48 : decode cX7_blamed 48 = .ok (.iaload, 1) := by decide +kernel
theorem dX7_blamed_49 : decode cX7_blamed 49 = .ok (.iload_n 1, 1) := by decide +kernel
theorem dX7_blamed_50 : decode cX7_blamed 50 = .ok (.if_icmp .ne 9, 3) := by decide +kernel
theorem dX7_blamed_53 : decode cX7_blamed 53 = .ok (.iconst 1, 1) := by decide +kernel
theorem dX7_blamed_54 : decode cX7_blamed 54 = .ok (.iload_n 3, 1) := by decide +kernel
theorem dX7_blamed_55 : decode cX7_blamed 55 = .ok (.ishl, 1) := by decide +kernel
theorem dX7_blamed_56 : decode cX7_blamed 56 = .ok (.goto 4, 3) := by decide +kernel
theorem dX7_blamed_59 : decode cX7_blamed 59 = .ok (.iconst 0, 1) := by decide +kernel
theorem dX7_blamed_60 : decode cX7_blamed 60 = .ok (.ior, 1) := by decide +kernel
theorem dX7_blamed_61 : decode cX7_blamed 61 = .ok (.istore_n 2, 1) := by decide +kernel
theorem dX7_blamed_62 : decode cX7_blamed 62 = .ok (.aload_n 0, 1) := by decide +kernel
theorem dX7_blamed_63 : decode cX7_blamed 63 = .ok (.getfield 30, 3) := by decide +kernel
theorem dX7_blamed_66 : decode cX7_blamed 66 = .ok (.iload 4, 2) := by decide +kernel
theorem dX7_blamed_68 : decode cX7_blamed 68 = .ok (.iconst 2, 1) := by decide +kernel
theorem dX7_blamed_69 : decode cX7_blamed 69 = .ok (.idiv, 1) := by decide +kernel
theorem dX7_blamed_70 : decode cX7_blamed 70 = .ok (.iaload, 1) := by decide +kernel
theorem dX7_blamed_71 : decode cX7_blamed 71 = .ok (.istore 4, 2) := by decide +kernel
theorem dX7_blamed_73 : decode cX7_blamed 73 = .ok (.goto (-39), 3) := by decide +kernel
theorem dX7_blamed_76 : decode cX7_blamed 76 = .ok (.iinc 3 1, 3) := by decide +kernel
theorem dX7_blamed_79 : decode cX7_blamed 79 = .ok (.goto (-66), 3) := by decide +kernel
theorem dX7_blamed_82 : decode cX7_blamed 82 = .ok (.iload_n 2, 1) := by decide +kernel
theorem dX7_blamed_83 : decode cX7_blamed 83 = .ok (.ireturn, 1) := by decide +kernel
theorem dX7_amiss_0 : decode cX7_amiss 0 = .ok (.iload_n 1, 1) := by decide +kernel
theorem dX7_amiss_1 : decode cX7_amiss 1 = .ok (.invokestatic 101, 3) := by decide +kernel
theorem dX7_amiss_4 : decode cX7_amiss 4 = .ok (.ifCond .ne 5, 3) := by decide +kernel
theorem dX7_amiss_7 : decode cX7_amiss 7 = .ok (.iconst (-1), 1) := by decide +kernel
theorem dX7_amiss_8 : decode cX7_amiss 8 = .ok (.ireturn, 1) := by decide +kernel
theorem dX7_amiss_9 : decode cX7_amiss 9 = .ok (.iload_n 2, 1) := by decide +kernel
theorem dX7_amiss_10 : decode cX7_amiss 10 = .ok (.ifCond .ge 7, 3) := by decide +kernel
theorem dX7_amiss_13 : decode cX7_amiss 13 = .ok (.iconst (-1), 1) := by decide +kernel
theorem dX7_amiss_14 : decode cX7_amiss 14 = .ok (.goto 38, 3) := by decide +kernel
theorem dX7_amiss_17 : decode cX7_amiss 17 = .ok (.aload_n 0, 1) := by decide +kernel
theorem dX7_amiss_18 : decode cX7_amiss 18 = .ok (.iload_n 1, 1) := by decide +kernel
theorem dX7_amiss_19 : decode cX7_amiss 19 = .ok (.invokevirtual 147, 3) := by decide +kernel
theorem dX7_amiss_22 : decode cX7_amiss 22 = .ok (.ifCond .ge 8, 3) := by decide +kernel
theorem dX7_amiss_25 : decode cX7_amiss 25 = .ok (.bipush (-3), 2) := by decide +kernel
theorem dX7_amiss_27 : decode cX7_amiss 27 = .ok (.goto 25, 3) := by decide +kernel
theorem dX7_amiss_30 : decode cX7_amiss 30 = .ok (.iload_n 2, 1) := by decide +kernel
theorem dX7_amiss_31 : decode cX7_amiss 31 = .ok (.i2l, 1) := by decide +kernel
theorem dX7_amiss_32 : decode cX7_amiss 32 = .ok (.lconst 0, 1) := by decide +kernel
theorem dX7_amiss_33 : decode cX7_amiss 33 = .ok (.aload_n 0, 1) := by decide +kernel
theorem dX7_amiss_34 : decode cX7_amiss 34 = .ok (.iload_n 1, 1) := by decide +kernel
theorem dX7_amiss_35 : decode cX7_amiss 35 = .ok (.invokevirtual 147, 3) := by decide +kernel
theorem dX7_amiss_38 : decode cX7_amiss 38 = .ok (.iconst 1, 1) := by decide +kernel
theorem dX7_amiss_39 : decode cX7_amiss 39 = .ok (.isub, 1) := by decide +kernel
theorem dX7_amiss_40 : decode cX7_amiss 40 = .ok (.i2l, 1) := by decide +kernel
theorem dX7_amiss_41 : decode cX7_amiss 41 = .ok (.invokestatic 7, 3) := by decide +kernel
theorem dX7_amiss_44 : decode cX7_amiss 44 = .ok (.ifCond .eq 7, 3) := by decide +kernel
theorem dX7_amiss_47 : decode cX7_amiss 47 = .ok (.iconst 0, 1) := by decide +kernel
theorem dX7_amiss_48 : decode cX7_amiss 48 = .ok (.goto 4, 3) := by decide +kernel
theorem dX7_amiss_51 : decode cX7_amiss 51 = .ok (.iconst (-1), 1) := by decide +kernel
theorem dX7_amiss_52 : decode cX7_amiss 52 = .ok (.ireturn, 1) := by decide +kernel
theorem dX7_trace_0 : decode cX7_trace 0 = .ok (.aload_n 0, 1) := by decide +kernel
theorem dX7_trace_1 : decode cX7_trace 1 = .ok (.iload_n 1, 1) := by decide +kernel
theorem dX7_trace_2 : decode cX7_trace 2 = .ok (.iload_n 2, 1) := by decide +kernel
theorem dX7_trace_3 : decode cX7_trace 3 = .ok (.invokevirtual 219, 3) := by decide +kernel
theorem dX7_trace_6 : decode cX7_trace 6 = .ok (.istore_n 3, 1) := by decide +kernel
theorem dX7_trace_7 : decode cX7_trace 7 = .ok (.iload_n 3, 1) := by decide +kernel
theorem dX7_trace_8 : decode cX7_trace 8 = .ok (.iconst (-1), 1) := by decide +kernel
theorem dX7_trace_9 : decode cX7_trace 9 = .ok (.if_icmp .ne 34, 3) := by decide +kernel
theorem dX7_trace_12 : decode cX7_trace 12 = .ok (.iload_n 2, 1) := by decide +kernel
theorem dX7_trace_13 : decode cX7_trace 13 = .ok (.iconst (-1), 1) := by decide +kernel
theorem dX7_trace_14 : decode cX7_trace 14 = .ok (.if_icmp .ne 29, 3) := by decide +kernel
theorem dX7_trace_17 : decode cX7_trace 17 = .ok (.iload_n 1, 1) := by decide +kernel
theorem dX7_trace_18 : decode cX7_trace 18 = .ok (.invokestatic 101, 3) := by decide +kernel
theorem dX7_trace_21 : decode cX7_trace 21 = .ok (.ifCond .eq 22, 3) := by decide +kernel
theorem dX7_trace_24 : decode cX7_trace 24 = .ok (.aload_n 0, 1) := by decide +kernel
theorem dX7_trace_25 : decode cX7_trace 25 = .ok (.iload_n 1, 1) := by decide +kernel
theorem dX7_trace_26 : decode cX7_trace 26 = .ok (.invokevirtual 147, 3) := by decide +kernel
theorem dX7_trace_29 : decode cX7_trace 29 = .ok (.ifCond .ge 8, 3) := by decide +kernel
theorem dX7_trace_32 : decode cX7_trace 32 = .ok (.bipush (-3), 2) := by decide +kernel
theorem dX7_trace_34 : decode cX7_trace 34 = .ok (.goto 8, 3) := by decide +kernel
theorem dX7_trace_37 : decode cX7_trace 37 = .ok (.aload_n 0, 1) := by decide +kernel
theorem dX7_trace_38 : decode cX7_trace 38 = .ok (.iload_n 1, 1) := by decide +kernel
theorem dX7_trace_39 : decode cX7_trace 39 = .ok (.invokevirtual 147, 3) := by decide +kernel
theorem dX7_trace_42 : decode cX7_trace 42 = .ok (.ireturn, 1) := by decide +kernel
theorem dX7_trace_43 : decode cX7_trace 43 = .ok (.iload_n 3, 1) := by decide +kernel
theorem dX7_trace_44 : decode cX7_trace 44 = .ok (.ifCond .eq 7, 3) := by decide +kernel
theorem dX7_trace_47 : decode cX7_trace 47 = .ok (.iload_n 3, 1) := by decide +kernel
theorem dX7_trace_48 : decode cX7_trace 48 = .ok (.goto 17, 3) := by decide +kernel
theorem dX7_trace_51 : decode cX7_trace 51 = .ok (.aload_n 0, 1) := by decide +kernel
theorem dX7_trace_52 : decode cX7_trace 52 = .ok (.getfield 48, 3) := by decide +kernel
theorem dX7_trace_55 : decode cX7_trace 55 = .ok (.aload_n 0, 1) := by decide +kernel
theorem dX7_trace_56 : decode cX7_trace 56 = .ok (.iload_n 1, 1) := by decide +kernel
theorem dX7_trace_57 : decode cX7_trace 57 = .ok (.invokevirtual 98, 3) := by decide +kernel
theorem dX7_trace_60 : decode cX7_trace 60 = .ok (.iconst 1, 1) := by decide +kernel
theorem dX7_trace_61 : decode cX7_trace 61 = .ok (.iadd, 1) := by decide +kernel
theorem dX7_trace_62 : decode cX7_trace 62 = .ok (.iload_n 2, 1) := by decide +kernel
theorem dX7_trace_63 : decode cX7_trace 63 = .ok (.iadd, 1) := by decide +kernel
theorem dX7_trace_64 : decode cX7_trace 64 = .ok (.iaload, 1) := by decide +kernel
theorem dX7_trace_65 : decode cX7_trace 65 = .ok (.ireturn, 1) := by decide +kernel
theorem dX7_seen_0 : decode cX7_seen 0 = .ok (.aload_n 0, 1) := by decide +kernel
theorem dX7_seen_1 : decode cX7_seen 1 = .ok (.iload_n 1, 1) := by decide +kernel
theorem dX7_seen_2 : decode cX7_seen 2 = .ok (.iload_n 2, 1) := by decide +kernel
theorem dX7_seen_3 : decode cX7_seen 3 = .ok (.invokevirtual 219, 3) := by decide +kernel
theorem dX7_seen_6 : decode cX7_seen 6 = .ok (.istore_n 3, 1) := by decide +kernel
theorem dX7_seen_7 : decode cX7_seen 7 = .ok (.iload_n 3, 1) := by decide +kernel
theorem dX7_seen_8 : decode cX7_seen 8 = .ok (.ifCond .eq 7, 3) := by decide +kernel
theorem dX7_seen_11 : decode cX7_seen 11 = .ok (.iload_n 3, 1) := by decide +kernel
theorem dX7_seen_12 : decode cX7_seen 12 = .ok (.goto 22, 3) := by decide +kernel
theorem dX7_seen_15 : decode cX7_seen 15 = .ok (.aload_n 0, 1) := by decide +kernel
theorem dX7_seen_16 : decode cX7_seen 16 = .ok (.aload_n 0, 1) := by decide +kernel
theorem dX7_seen_17 : decode cX7_seen 17 = .ok (.getfield 48, 3) := by decide +kernel
theorem dX7_seen_20 : decode cX7_seen 20 = .ok (.aload_n 0, 1) := by decide +kernel
theorem dX7_seen_21 : decode cX7_seen 21 = .ok (.iload_n 1, 1) := by decide +kernel
theorem dX7_seen_22 : decode cX7_seen 22 = .ok (.invokevirtual 98, 3) := by decide +kernel
theorem dX7_seen_25 : decode cX7_seen 25 = .ok (.bipush 13, 2) := by decide +kernel
theorem dX7_seen_27 : decode cX7_seen 27 = .ok (.iadd, 1) := by decide +kernel
theorem dX7_seen_28 : decode cX7_seen 28 = .ok (.iload_n 2, 1) := by decide +kernel
theorem dX7_seen_29 : decode cX7_seen 29 = .ok (.iadd, 1) := by decide +kernel
theorem dX7_seen_30 : decode cX7_seen 30 = .ok (.iaload, 1) := by decide +kernel
theorem dX7_seen_31 : decode cX7_seen 31 = .ok (.invokevirtual 211, 3) := by decide +kernel
theorem dX7_seen_34 : decode cX7_seen 34 = .ok (.ireturn, 1) := by decide +kernel
theorem dX7_isTraced_0 : decode cX7_isTraced 0 = .ok (.iconst 0, 1) := by decide +kernel
theorem dX7_isTraced_1 : decode cX7_isTraced 1 = .ok (.istore_n 3, 1) := by decide +kernel
theorem dX7_isTraced_2 : decode cX7_isTraced 2 = .ok (.iconst 0, 1) := by decide +kernel
theorem dX7_isTraced_3 : decode cX7_isTraced 3 = .ok (.istore 4, 2) := by decide +kernel
theorem dX7_isTraced_5 : decode cX7_isTraced 5 = .ok (.iload 4, 2) := by decide +kernel
theorem dX7_isTraced_7 : decode cX7_isTraced 7 = .ok (.aload_n 0, 1) := by decide +kernel
theorem dX7_isTraced_8 : decode cX7_isTraced 8 = .ok (.iload_n 1, 1) := by decide +kernel
theorem dX7_isTraced_9 : decode cX7_isTraced 9 = .ok (.invokevirtual 147, 3) := by decide +kernel
theorem dX7_isTraced_12 : decode cX7_isTraced 12 = .ok (.if_icmp .ge 38, 3) := by decide +kernel
theorem dX7_isTraced_15 : decode cX7_isTraced 15 = .ok (.iload_n 3, 1) := by decide +kernel
theorem dX7_isTraced_16 : decode cX7_isTraced 16 = .ok (.ifCond .ne 22, 3) := by decide +kernel
theorem dX7_isTraced_19 : decode cX7_isTraced 19 = .ok (.aload_n 0, 1) := by decide +kernel
theorem dX7_isTraced_20 : decode cX7_isTraced 20 = .ok (.getfield 48, 3) := by decide +kernel
theorem dX7_isTraced_23 : decode cX7_isTraced 23 = .ok (.aload_n 0, 1) := by decide +kernel
theorem dX7_isTraced_24 : decode cX7_isTraced 24 = .ok (.iload_n 1, 1) := by decide +kernel
theorem dX7_isTraced_25 : decode cX7_isTraced 25 = .ok (.invokevirtual 98, 3) := by decide +kernel
theorem dX7_isTraced_28 : decode cX7_isTraced 28 = .ok (.iconst 1, 1) := by decide +kernel
theorem dX7_isTraced_29 : decode cX7_isTraced 29 = .ok (.iadd, 1) := by decide +kernel
theorem dX7_isTraced_30 : decode cX7_isTraced 30 = .ok (.iload 4, 2) := by decide +kernel
theorem dX7_isTraced_32 : decode cX7_isTraced 32 = .ok (.iadd, 1) := by decide +kernel
theorem dX7_isTraced_33 : decode cX7_isTraced 33 = .ok (.iaload, 1) := by decide +kernel
theorem dX7_isTraced_34 : decode cX7_isTraced 34 = .ok (.iload_n 2, 1) := by decide +kernel
theorem dX7_isTraced_35 : decode cX7_isTraced 35 = .ok (.if_icmp .ne 7, 3) := by decide +kernel
theorem dX7_isTraced_38 : decode cX7_isTraced 38 = .ok (.iconst 1, 1) := by decide +kernel
theorem dX7_isTraced_39 : decode cX7_isTraced 39 = .ok (.goto 4, 3) := by decide +kernel
theorem dX7_isTraced_42 : decode cX7_isTraced 42 = .ok (.iconst 0, 1) := by decide +kernel
theorem dX7_isTraced_43 : decode cX7_isTraced 43 = .ok (.istore_n 3, 1) := by decide +kernel
theorem dX7_isTraced_44 : decode cX7_isTraced 44 = .ok (.iinc 4 1, 3) := by decide +kernel
theorem dX7_isTraced_47 : decode cX7_isTraced 47 = .ok (.goto (-42), 3) := by decide +kernel
theorem dX7_isTraced_50 : decode cX7_isTraced 50 = .ok (.iload_n 3, 1) := by decide +kernel
theorem dX7_isTraced_51 : decode cX7_isTraced 51 = .ok (.ireturn, 1) := by decide +kernel
theorem dX7_users_0 : decode cX7_users 0 = .ok (.iload_n 1, 1) := by decide +kernel
theorem dX7_users_1 : decode cX7_users 1 = .ok (.invokestatic 208, 3) := by decide +kernel
theorem dX7_users_4 : decode cX7_users 4 = .ok (.ifCond .ne 5, 3) := by decide +kernel
theorem dX7_users_7 : decode cX7_users 7 = .ok (.iconst (-1), 1) := by decide +kernel
theorem dX7_users_8 : decode cX7_users 8 = .ok (.ireturn, 1) := by decide +kernel
theorem dX7_users_9 : decode cX7_users 9 = .ok (.iconst 0, 1) := by decide +kernel
theorem dX7_users_10 : decode cX7_users 10 = .ok (.istore_n 2, 1) := by decide +kernel
theorem dX7_users_11 : decode cX7_users 11 = .ok (.iconst 0, 1) := by decide +kernel
theorem dX7_users_12 : decode cX7_users 12 = .ok (.istore_n 3, 1) := by decide +kernel
theorem dX7_users_13 : decode cX7_users 13 = .ok (.iload_n 3, 1) := by decide +kernel
theorem dX7_users_14 : decode cX7_users 14 = .ok (.bipush 16, 2) := by decide +kernel
theorem dX7_users_16 : decode cX7_users 16 = .ok (.if_icmp .ge 31, 3) := by decide +kernel
theorem dX7_users_19 : decode cX7_users 19 = .ok (.iload_n 2, 1) := by decide +kernel
theorem dX7_users_20 : decode cX7_users 20 = .ok (.aload_n 0, 1) := by decide +kernel
theorem dX7_users_21 : decode cX7_users 21 = .ok (.bipush 8, 2) := by decide +kernel
theorem dX7_users_23 : decode cX7_users 23 = .ok (.iload_n 3, 1) := by decide +kernel
theorem dX7_users_24 : decode cX7_users 24 = .ok (.iadd, 1) := by decide +kernel
theorem dX7_users_25 : decode cX7_users 25 = .ok (.iload_n 1, 1) := by decide +kernel
theorem dX7_users_26 : decode cX7_users 26 = .ok (.invokevirtual 222, 3) := by decide +kernel
theorem dX7_users_29 : decode cX7_users 29 = .ok (.ifCond .eq 9, 3) := by decide +kernel
theorem dX7_users_32 : decode cX7_users 32 = .ok (.iconst 1, 1) := by decide +kernel
theorem dX7_users_33 : decode cX7_users 33 = .ok (.iload_n 3, 1) := by decide +kernel
theorem dX7_users_34 : decode cX7_users 34 = .ok (.ishl, 1) := by decide +kernel
theorem dX7_users_35 : decode cX7_users 35 = .ok (.goto 4, 3) := by decide +kernel
theorem dX7_users_38 : decode cX7_users 38 = .ok (.iconst 0, 1) := by decide +kernel
theorem dX7_users_39 : decode cX7_users 39 = .ok (.ior, 1) := by decide +kernel
theorem dX7_users_40 : decode cX7_users 40 = .ok (.istore_n 2, 1) := by decide +kernel
theorem dX7_users_41 : decode cX7_users 41 = .ok (.iinc 3 1, 3) := by decide +kernel
theorem dX7_users_44 : decode cX7_users 44 = .ok (.goto (-31), 3) := by decide +kernel
theorem dX7_users_47 : decode cX7_users 47 = .ok (.iload_n 2, 1) := by decide +kernel
theorem dX7_users_48 : decode cX7_users 48 = .ok (.ireturn, 1) := by decide +kernel
theorem dX7_depth_0 : decode cX7_depth 0 = .ok (.iload_n 1, 1) := by decide +kernel
theorem dX7_depth_1 : decode cX7_depth 1 = .ok (.invokestatic 208, 3) := by decide +kernel
theorem dX7_depth_4 : decode cX7_depth 4 = .ok (.ifCond .ne 5, 3) := by decide +kernel
theorem dX7_depth_7 : decode cX7_depth 7 = .ok (.iconst (-1), 1) := by decide +kernel
theorem dX7_depth_8 : decode cX7_depth 8 = .ok (.ireturn, 1) := by decide +kernel
theorem dX7_depth_9 : decode cX7_depth 9 = .ok (.iconst 0, 1) := by decide +kernel
theorem dX7_depth_10 : decode cX7_depth 10 = .ok (.istore_n 2, 1) := by decide +kernel
theorem dX7_depth_11 : decode cX7_depth 11 = .ok (.iload_n 2, 1) := by decide +kernel
theorem dX7_depth_12 : decode cX7_depth 12 = .ok (.bipush 24, 2) := by decide +kernel
theorem dX7_depth_14 : decode cX7_depth 14 = .ok (.if_icmp .ge 16, 3) := by decide +kernel
theorem dX7_depth_17 : decode cX7_depth 17 = .ok (.aload_n 0, 1) := by decide +kernel
theorem dX7_depth_18 : decode cX7_depth 18 = .ok (.getfield 85, 3) := by decide +kernel
theorem dX7_depth_21 : decode cX7_depth 21 = .ok (.iload_n 2, 1) := by decide +kernel
theorem dX7_depth_22 : decode cX7_depth 22 = .ok (.iconst 0, 1) := by decide +kernel
theorem dX7_depth_23 : decode cX7_depth 23 = .ok (.iastore, 1) := by decide +kernel
theorem dX7_depth_24 : decode cX7_depth 24 = .ok (.iinc 2 1, 3) := by decide +kernel
theorem dX7_depth_27 : decode cX7_depth 27 = .ok (.goto (-16), 3) := by decide +kernel
theorem dX7_depth_30 : decode cX7_depth 30 = .ok (.iconst 0, 1) := by decide +kernel
theorem dX7_depth_31 : decode cX7_depth 31 = .ok (.istore_n 2, 1) := by decide +kernel
theorem dX7_depth_32 : decode cX7_depth 32 = .ok (.iload_n 2, 1) := by decide +kernel
theorem dX7_depth_33 : decode cX7_depth 33 = .ok (.bipush 24, 2) := by decide +kernel
theorem dX7_depth_35 : decode cX7_depth 35 = .ok (.if_icmp .ge 96, 3) := by decide +kernel
theorem dX7_depth_38 : decode cX7_depth 38 = .ok (.bipush 8, 2) := by decide +kernel
theorem dX7_depth_40 : decode cX7_depth 40 = .ok (.istore_n 3, 1) := by decide +kernel
theorem dX7_depth_41 : decode cX7_depth 41 = .ok (.iload_n 3, 1) := by decide +kernel
theorem dX7_depth_42 : decode cX7_depth 42 = .ok (.bipush 24, 2) := by decide +kernel
theorem dX7_depth_44 : decode cX7_depth 44 = .ok (.if_icmp .ge 81, 3) := by decide +kernel
theorem dX7_depth_47 : decode cX7_depth 47 = .ok (.iconst 0, 1) := by decide +kernel
theorem dX7_depth_48 : decode cX7_depth 48 = .ok (.istore 4, 2) := by decide +kernel
theorem dX7_depth_50 : decode cX7_depth 50 = .ok (.iconst 0, 1) := by decide +kernel
theorem dX7_depth_51 : decode cX7_depth 51 = .ok (.istore 5, 2) := by decide +kernel
theorem dX7_depth_53 : decode cX7_depth 53 = .ok (.iload 5, 2) := by decide +kernel
theorem dX7_depth_55 : decode cX7_depth 55 = .ok (.aload_n 0, 1) := by decide +kernel
theorem dX7_depth_56 : decode cX7_depth 56 = .ok (.iload_n 3, 1) := by decide +kernel
theorem dX7_depth_57 : decode cX7_depth 57 = .ok (.invokevirtual 147, 3) := by decide +kernel
theorem dX7_depth_60 : decode cX7_depth 60 = .ok (.if_icmp .ge 36, 3) := by decide +kernel
theorem dX7_depth_63 : decode cX7_depth 63 = .ok (.iload 4, 2) := by decide +kernel
theorem dX7_depth_65 : decode cX7_depth 65 = .ok (.aload_n 0, 1) := by decide +kernel
theorem dX7_depth_66 : decode cX7_depth 66 = .ok (.getfield 85, 3) := by decide +kernel
theorem dX7_depth_69 : decode cX7_depth 69 = .ok (.aload_n 0, 1) := by decide +kernel
theorem dX7_depth_70 : decode cX7_depth 70 = .ok (.getfield 48, 3) := by decide +kernel
theorem dX7_depth_73 : decode cX7_depth 73 = .ok (.aload_n 0, 1) := by decide +kernel
theorem dX7_depth_74 : decode cX7_depth 74 = .ok (.iload_n 3, 1) := by decide +kernel
theorem dX7_depth_75 : decode cX7_depth 75 = .ok (.invokevirtual 98, 3) := by decide +kernel
theorem dX7_depth_78 : decode cX7_depth 78 = .ok (.iconst 1, 1) := by decide +kernel
theorem dX7_depth_79 : decode cX7_depth 79 = .ok (.iadd, 1) := by decide +kernel
theorem dX7_depth_80 : decode cX7_depth 80 = .ok (.iload 5, 2) := by decide +kernel
theorem dX7_depth_82 : decode cX7_depth 82 = .ok (.iadd, 1) := by decide +kernel
theorem dX7_depth_83 : decode cX7_depth 83 = .ok (.iaload, 1) := by decide +kernel
theorem dX7_depth_84 : decode cX7_depth 84 = .ok (.iaload, 1) := by decide +kernel
theorem dX7_depth_85 : decode cX7_depth 85 = .ok (.invokestatic 226, 3) := by decide +kernel
theorem dX7_depth_88 : decode cX7_depth 88 = .ok (.istore 4, 2) := by decide +kernel
theorem dX7_depth_90 : decode cX7_depth 90 = .ok (.iinc 5 1, 3) := by decide +kernel
theorem dX7_depth_93 : decode cX7_depth 93 = .ok (.goto (-40), 3) := by decide +kernel
theorem dX7_depth_96 : decode cX7_depth 96 = .ok (.aload_n 0, 1) := by decide +kernel
theorem dX7_depth_97 : decode cX7_depth 97 = .ok (.getfield 85, 3) := by decide +kernel
theorem dX7_depth_100 : decode cX7_depth 100 = .ok (.iload_n 3, 1) := by decide +kernel
theorem dX7_depth_101 : decode cX7_depth 101 = .ok (.aload_n 0, 1) := by decide +kernel
theorem dX7_depth_102 : decode cX7_depth 102 = .ok (.iload_n 3, 1) := by decide +kernel
theorem dX7_depth_103 : decode cX7_depth 103 = .ok (.invokevirtual 147, 3) := by decide +kernel
theorem dX7_depth_106 : decode cX7_depth 106 = .ok (.iconst 1, 1) := by decide +kernel
theorem dX7_depth_107 : decode cX7_depth 107 = .ok (.if_icmp .ge 7, 3) := by decide +kernel
theorem dX7_depth_110 : decode cX7_depth 110 = .ok (.iconst 0, 1) := by decide +kernel
theorem dX7_depth_111 : decode cX7_depth 111 = .ok (.goto 7, 3) := by decide +kernel
theorem dX7_depth_114 : decode cX7_depth 114 = .ok (.iload 4, 2) := by decide +kernel
theorem dX7_depth_116 : decode cX7_depth 116 = .ok (.iconst 1, 1) := by decide +kernel
theorem dX7_depth_117 : decode cX7_depth 117 = .ok (.iadd, 1) := by decide +kernel
theorem dX7_depth_118 : decode cX7_depth 118 = .ok (.iastore, 1) := by decide +kernel
theorem dX7_depth_119 : decode cX7_depth 119 = .ok (.iinc 3 1, 3) := by decide +kernel
theorem dX7_depth_122 : decode cX7_depth 122 = .ok (.goto (-81), 3) := by decide +kernel
theorem dX7_depth_125 : decode cX7_depth 125 = .ok (.iinc 2 1, 3) := by decide +kernel
theorem dX7_depth_128 : decode cX7_depth 128 = .ok (.goto (-96), 3) := by decide +kernel
theorem dX7_depth_131 : decode cX7_depth 131 = .ok (.aload_n 0, 1) := by decide +kernel
theorem dX7_depth_132 : decode cX7_depth 132 = .ok (.getfield 85, 3) := by decide +kernel
theorem dX7_depth_135 : decode cX7_depth 135 = .ok (.iload_n 1, 1) := by decide +kernel
theorem dX7_depth_136 : decode cX7_depth 136 = .ok (.iaload, 1) := by decide +kernel
theorem dX7_depth_137 : decode cX7_depth 137 = .ok (.ireturn, 1) := by decide +kernel
theorem dX7_order_0 : decode cX7_order 0 = .ok (.iload_n 1, 1) := by decide +kernel
theorem dX7_order_1 : decode cX7_order 1 = .ok (.ifCond .ge 7, 3) := by decide +kernel
theorem dX7_order_4 : decode cX7_order 4 = .ok (.iconst (-1), 1) := by decide +kernel
theorem dX7_order_5 : decode cX7_order 5 = .ok (.goto 22, 3) := by decide +kernel
theorem dX7_order_8 : decode cX7_order 8 = .ok (.iload_n 1, 1) := by decide +kernel
theorem dX7_order_9 : decode cX7_order 9 = .ok (.aload_n 0, 1) := by decide +kernel
theorem dX7_order_10 : decode cX7_order 10 = .ok (.getfield 144, 3) := by decide +kernel
theorem dX7_order_13 : decode cX7_order 13 = .ok (.if_icmp .ge 12, 3) := by decide +kernel
theorem dX7_order_16 : decode cX7_order 16 = .ok (.aload_n 0, 1) := by decide +kernel
theorem dX7_order_17 : decode cX7_order 17 = .ok (.getfield 67, 3) := by decide +kernel
theorem dX7_order_20 : decode cX7_order 20 = .ok (.iload_n 1, 1) := by decide +kernel
theorem dX7_order_21 : decode cX7_order 21 = .ok (.iaload, 1) := by decide +kernel
theorem dX7_order_22 : decode cX7_order 22 = .ok (.goto 5, 3) := by decide +kernel
theorem dX7_order_25 : decode cX7_order 25 = .ok (.bipush (-5), 2) := by decide +kernel
theorem dX7_order_27 : decode cX7_order 27 = .ok (.ireturn, 1) := by decide +kernel
theorem dX7_unlike_0 : decode cX7_unlike 0 = .ok (.iconst 0, 1) := by decide +kernel
theorem dX7_unlike_1 : decode cX7_unlike 1 = .ok (.istore_n 1, 1) := by decide +kernel
theorem dX7_unlike_2 : decode cX7_unlike 2 = .ok (.iconst 0, 1) := by decide +kernel
theorem dX7_unlike_3 : decode cX7_unlike 3 = .ok (.istore_n 2, 1) := by decide +kernel
theorem dX7_unlike_4 : decode cX7_unlike 4 = .ok (.iload_n 2, 1) := by decide +kernel
theorem dX7_unlike_5 : decode cX7_unlike 5 = .ok (.bipush 16, 2) := by decide +kernel
theorem dX7_unlike_7 : decode cX7_unlike 7 = .ok (.if_icmp .ge 86, 3) := by decide +kernel
theorem dX7_unlike_10 : decode cX7_unlike 10 = .ok (.aload_n 0, 1) := by decide +kernel
theorem dX7_unlike_11 : decode cX7_unlike 11 = .ok (.getfield 48, 3) := by decide +kernel
theorem dX7_unlike_14 : decode cX7_unlike 14 = .ok (.sipush 408, 3) := by decide +kernel
theorem dX7_unlike_17 : decode cX7_unlike 17 = .ok (.iload_n 2, 1) := by decide +kernel
theorem dX7_unlike_18 : decode cX7_unlike 18 = .ok (.iadd, 1) := by decide +kernel
theorem dX7_unlike_19 : decode cX7_unlike 19 = .ok (.iaload, 1) := by decide +kernel
theorem dX7_unlike_20 : decode cX7_unlike 20 = .ok (.istore_n 3, 1) := by decide +kernel
theorem dX7_unlike_21 : decode cX7_unlike 21 = .ok (.iload_n 3, 1) := by decide +kernel
theorem dX7_unlike_22 : decode cX7_unlike 22 = .ok (.ifCond .lt 7, 3) := by decide +kernel
theorem dX7_unlike_25 : decode cX7_unlike 25 = .ok (.iconst 1, 1) := by decide +kernel
theorem dX7_unlike_26 : decode cX7_unlike 26 = .ok (.goto 4, 3) := by decide +kernel
theorem dX7_unlike_29 : decode cX7_unlike 29 = .ok (.iconst 0, 1) := by decide +kernel
theorem dX7_unlike_30 : decode cX7_unlike 30 = .ok (.istore 4, 2) := by decide +kernel
theorem dX7_unlike_32 : decode cX7_unlike 32 = .ok (.iconst 0, 1) := by decide +kernel
theorem dX7_unlike_33 : decode cX7_unlike 33 = .ok (.istore 5, 2) := by decide +kernel
theorem dX7_unlike_35 : decode cX7_unlike 35 = .ok (.iload 5, 2) := by decide +kernel
theorem dX7_unlike_37 : decode cX7_unlike 37 = .ok (.iload_n 2, 1) := by decide +kernel
theorem dX7_unlike_38 : decode cX7_unlike 38 = .ok (.if_icmp .ge 36, 3) := by decide +kernel
theorem dX7_unlike_41 : decode cX7_unlike 41 = .ok (.iload 4, 2) := by decide +kernel
theorem dX7_unlike_43 : decode cX7_unlike 43 = .ok (.ifCond .eq 22, 3) := by decide +kernel
theorem dX7_unlike_46 : decode cX7_unlike 46 = .ok (.aload_n 0, 1) := by decide +kernel
theorem dX7_unlike_47 : decode cX7_unlike 47 = .ok (.getfield 48, 3) := by decide +kernel
theorem dX7_unlike_50 : decode cX7_unlike 50 = .ok (.sipush 408, 3) := by decide +kernel
theorem dX7_unlike_53 : decode cX7_unlike 53 = .ok (.iload 5, 2) := by decide +kernel
theorem dX7_unlike_55 : decode cX7_unlike 55 = .ok (.iadd, 1) := by decide +kernel
theorem dX7_unlike_56 : decode cX7_unlike 56 = .ok (.iaload, 1) := by decide +kernel
theorem dX7_unlike_57 : decode cX7_unlike 57 = .ok (.iload_n 3, 1) := by decide +kernel
theorem dX7_unlike_58 : decode cX7_unlike 58 = .ok (.if_icmp .eq 7, 3) := by decide +kernel
theorem dX7_unlike_61 : decode cX7_unlike 61 = .ok (.iconst 1, 1) := by decide +kernel
theorem dX7_unlike_62 : decode cX7_unlike 62 = .ok (.goto 4, 3) := by decide +kernel
theorem dX7_unlike_65 : decode cX7_unlike 65 = .ok (.iconst 0, 1) := by decide +kernel
theorem dX7_unlike_66 : decode cX7_unlike 66 = .ok (.istore 4, 2) := by decide +kernel
theorem dX7_unlike_68 : decode cX7_unlike 68 = .ok (.iinc 5 1, 3) := by decide +kernel
theorem dX7_unlike_71 : decode cX7_unlike 71 = .ok (.goto (-36), 3) := by decide +kernel
theorem dX7_unlike_74 : decode cX7_unlike 74 = .ok (.iload_n 1, 1) := by decide +kernel
theorem dX7_unlike_75 : decode cX7_unlike 75 = .ok (.iload 4, 2) := by decide +kernel
theorem dX7_unlike_77 : decode cX7_unlike 77 = .ok (.ifCond .eq 7, 3) := by decide +kernel
theorem dX7_unlike_80 : decode cX7_unlike 80 = .ok (.iconst 1, 1) := by decide +kernel
theorem dX7_unlike_81 : decode cX7_unlike 81 = .ok (.goto 4, 3) := by decide +kernel
theorem dX7_unlike_84 : decode cX7_unlike 84 = .ok (.iconst 0, 1) := by decide +kernel
theorem dX7_unlike_85 : decode cX7_unlike 85 = .ok (.iadd, 1) := by decide +kernel
theorem dX7_unlike_86 : decode cX7_unlike 86 = .ok (.istore_n 1, 1) := by decide +kernel
theorem dX7_unlike_87 : decode cX7_unlike 87 = .ok (.iinc 2 1, 3) := by decide +kernel
theorem dX7_unlike_90 : decode cX7_unlike 90 = .ok (.goto (-86), 3) := by decide +kernel
theorem dX7_unlike_93 : decode cX7_unlike 93 = .ok (.iload_n 1, 1) := by decide +kernel
theorem dX7_unlike_94 : decode cX7_unlike 94 = .ok (.ireturn, 1) := by decide +kernel
theorem dX7_fresh_0 : decode cX7_fresh 0 = .ok (.iconst 0, 1) := by decide +kernel
theorem dX7_fresh_1 : decode cX7_fresh 1 = .ok (.istore_n 1, 1) := by decide +kernel
theorem dX7_fresh_2 : decode cX7_fresh 2 = .ok (.iconst 0, 1) := by decide +kernel
theorem dX7_fresh_3 : decode cX7_fresh 3 = .ok (.istore_n 2, 1) := by decide +kernel
theorem dX7_fresh_4 : decode cX7_fresh 4 = .ok (.iload_n 2, 1) := by decide +kernel
theorem dX7_fresh_5 : decode cX7_fresh 5 = .ok (.bipush 16, 2) := by decide +kernel
theorem dX7_fresh_7 : decode cX7_fresh 7 = .ok (.if_icmp .ge 111, 3) := by decide +kernel
theorem dX7_fresh_10 : decode cX7_fresh 10 = .ok (.sipush 424, 3) := by decide +kernel
theorem dX7_fresh_13 : decode cX7_fresh 13 = .ok (.bipush 25, 2) := by decide +kernel
theorem dX7_fresh_15 : decode cX7_fresh 15 = .ok (.iload_n 2, 1) := by decide +kernel
theorem dX7_fresh_16 : decode cX7_fresh 16 = .ok (.imul, 1) := by decide +kernel
theorem dX7_fresh_17 : decode cX7_fresh 17 = .ok (.iadd, 1) := by decide +kernel
theorem dX7_fresh_18 : decode cX7_fresh 18 = .ok (.istore_n 3, 1) := by decide +kernel
theorem dX7_fresh_19 : decode cX7_fresh 19 = .ok (.aload_n 0, 1) := by decide +kernel
theorem dX7_fresh_20 : decode cX7_fresh 20 = .ok (.getfield 48, 3) := by decide +kernel
theorem dX7_fresh_23 : decode cX7_fresh 23 = .ok (.iload_n 3, 1) := by decide +kernel
theorem dX7_fresh_24 : decode cX7_fresh 24 = .ok (.iaload, 1) := by decide +kernel
theorem dX7_fresh_25 : decode cX7_fresh 25 = .ok (.ifCond .lt 7, 3) := by decide +kernel
theorem dX7_fresh_28 : decode cX7_fresh 28 = .ok (.iconst 1, 1) := by decide +kernel
theorem dX7_fresh_29 : decode cX7_fresh 29 = .ok (.goto 4, 3) := by decide +kernel
theorem dX7_fresh_32 : decode cX7_fresh 32 = .ok (.iconst 0, 1) := by decide +kernel
theorem dX7_fresh_33 : decode cX7_fresh 33 = .ok (.istore 4, 2) := by decide +kernel
theorem dX7_fresh_35 : decode cX7_fresh 35 = .ok (.iconst 0, 1) := by decide +kernel
theorem dX7_fresh_36 : decode cX7_fresh 36 = .ok (.istore 5, 2) := by decide +kernel
theorem dX7_fresh_38 : decode cX7_fresh 38 = .ok (.iload 5, 2) := by decide +kernel
theorem dX7_fresh_40 : decode cX7_fresh 40 = .ok (.aload_n 0, 1) := by decide +kernel
theorem dX7_fresh_41 : decode cX7_fresh 41 = .ok (.getfield 48, 3) := by decide +kernel
theorem dX7_fresh_44 : decode cX7_fresh 44 = .ok (.iload_n 3, 1) := by decide +kernel
theorem dX7_fresh_45 : decode cX7_fresh 45 = .ok (.iaload, 1) := by decide +kernel
theorem dX7_fresh_46 : decode cX7_fresh 46 = .ok (.if_icmp .ge 51, 3) := by decide +kernel
theorem dX7_fresh_49 : decode cX7_fresh 49 = .ok (.iload 4, 2) := by decide +kernel
theorem dX7_fresh_51 : decode cX7_fresh 51 = .ok (.ifCond .eq 37, 3) := by decide +kernel
theorem dX7_fresh_54 : decode cX7_fresh 54 = .ok (.aload_n 0, 1) := by decide +kernel
theorem dX7_fresh_55 : decode cX7_fresh 55 = .ok (.aload_n 0, 1) := by decide +kernel
theorem dX7_fresh_56 : decode cX7_fresh 56 = .ok (.getfield 48, 3) := by decide +kernel
theorem dX7_fresh_59 : decode cX7_fresh 59 = .ok (.iload_n 3, 1) := by decide +kernel
theorem dX7_fresh_60 : decode cX7_fresh 60 = .ok (.iconst 1, 1) := by decide +kernel
theorem dX7_fresh_61 : decode cX7_fresh 61 = .ok (.iadd, 1) := by decide +kernel
theorem dX7_fresh_62 : decode cX7_fresh 62 = .ok (.iload 5, 2) := by decide +kernel
theorem dX7_fresh_64 : decode cX7_fresh 64 = .ok (.iadd, 1) := by decide +kernel
theorem dX7_fresh_65 : decode cX7_fresh 65 = .ok (.iaload, 1) := by decide +kernel
theorem dX7_fresh_66 : decode cX7_fresh 66 = .ok (.invokevirtual 156, 3) := by decide +kernel
theorem dX7_fresh_69 : decode cX7_fresh 69 = .ok (.aload_n 0, 1) := by decide +kernel
theorem dX7_fresh_70 : decode cX7_fresh 70 = .ok (.getfield 48, 3) := by decide +kernel
theorem dX7_fresh_73 : decode cX7_fresh 73 = .ok (.iload_n 3, 1) := by decide +kernel
theorem dX7_fresh_74 : decode cX7_fresh 74 = .ok (.bipush 13, 2) := by decide +kernel
theorem dX7_fresh_76 : decode cX7_fresh 76 = .ok (.iadd, 1) := by decide +kernel
theorem dX7_fresh_77 : decode cX7_fresh 77 = .ok (.iload 5, 2) := by decide +kernel
theorem dX7_fresh_79 : decode cX7_fresh 79 = .ok (.iadd, 1) := by decide +kernel
theorem dX7_fresh_80 : decode cX7_fresh 80 = .ok (.iaload, 1) := by decide +kernel
theorem dX7_fresh_81 : decode cX7_fresh 81 = .ok (.if_icmp .ne 7, 3) := by decide +kernel
theorem dX7_fresh_84 : decode cX7_fresh 84 = .ok (.iconst 1, 1) := by decide +kernel
theorem dX7_fresh_85 : decode cX7_fresh 85 = .ok (.goto 4, 3) := by decide +kernel
theorem dX7_fresh_88 : decode cX7_fresh 88 = .ok (.iconst 0, 1) := by decide +kernel
theorem dX7_fresh_89 : decode cX7_fresh 89 = .ok (.istore 4, 2) := by decide +kernel
theorem dX7_fresh_91 : decode cX7_fresh 91 = .ok (.iinc 5 1, 3) := by decide +kernel
theorem dX7_fresh_94 : decode cX7_fresh 94 = .ok (.goto (-56), 3) := by decide +kernel
theorem dX7_fresh_97 : decode cX7_fresh 97 = .ok (.iload_n 1, 1) := by decide +kernel
theorem dX7_fresh_98 : decode cX7_fresh 98 = .ok (.iload 4, 2) := by decide +kernel
theorem dX7_fresh_100 : decode cX7_fresh 100 = .ok (.ifCond .eq 9, 3) := by decide +kernel
theorem dX7_fresh_103 : decode cX7_fresh 103 = .ok (.iconst 1, 1) := by decide +kernel
theorem dX7_fresh_104 : decode cX7_fresh 104 = .ok (.iload_n 2, 1) := by decide +kernel
theorem dX7_fresh_105 : decode cX7_fresh 105 = .ok (.ishl, 1) := by decide +kernel
theorem dX7_fresh_106 : decode cX7_fresh 106 = .ok (.goto 4, 3) := by decide +kernel
theorem dX7_fresh_109 : decode cX7_fresh 109 = .ok (.iconst 0, 1) := by decide +kernel
theorem dX7_fresh_110 : decode cX7_fresh 110 = .ok (.ior, 1) := by decide +kernel
theorem dX7_fresh_111 : decode cX7_fresh 111 = .ok (.istore_n 1, 1) := by decide +kernel
theorem dX7_fresh_112 : decode cX7_fresh 112 = .ok (.iinc 2 1, 3) := by decide +kernel
theorem dX7_fresh_115 : decode cX7_fresh 115 = .ok (.goto (-111), 3) := by decide +kernel
theorem dX7_fresh_118 : decode cX7_fresh 118 = .ok (.iload_n 1, 1) := by decide +kernel
theorem dX7_fresh_119 : decode cX7_fresh 119 = .ok (.ireturn, 1) := by decide +kernel
theorem dX7_forget_0 : decode cX7_forget 0 = .ok (.iload_n 1, 1) := by decide +kernel
theorem dX7_forget_1 : decode cX7_forget 1 = .ok (.invokestatic 101, 3) := by decide +kernel
theorem dX7_forget_4 : decode cX7_forget 4 = .ok (.ifCond .ne 5, 3) := by decide +kernel
theorem dX7_forget_7 : decode cX7_forget 7 = .ok (.iconst (-1), 1) := by decide +kernel
theorem dX7_forget_8 : decode cX7_forget 8 = .ok (.ireturn, 1) := by decide +kernel
theorem dX7_forget_9 : decode cX7_forget 9 = .ok (.aload_n 0, 1) := by decide +kernel
theorem dX7_forget_10 : decode cX7_forget 10 = .ok (.iload_n 1, 1) := by decide +kernel
theorem dX7_forget_11 : decode cX7_forget 11 = .ok (.invokevirtual 156, 3) := by decide +kernel
theorem dX7_forget_14 : decode cX7_forget 14 = .ok (.ifCond .ge 11, 3) := by decide +kernel
theorem dX7_forget_17 : decode cX7_forget 17 = .ok (.aload_n 0, 1) := by decide +kernel
theorem dX7_forget_18 : decode cX7_forget 18 = .ok (.iload_n 1, 1) := by decide +kernel
theorem dX7_forget_19 : decode cX7_forget 19 = .ok (.invokevirtual 147, 3) := by decide +kernel
theorem dX7_forget_22 : decode cX7_forget 22 = .ok (.ifCond .lt 7, 3) := by decide +kernel
theorem dX7_forget_25 : decode cX7_forget 25 = .ok (.iconst 1, 1) := by decide +kernel
theorem dX7_forget_26 : decode cX7_forget 26 = .ok (.goto 4, 3) := by decide +kernel
theorem dX7_forget_29 : decode cX7_forget 29 = .ok (.iconst 0, 1) := by decide +kernel
theorem dX7_forget_30 : decode cX7_forget 30 = .ok (.istore_n 2, 1) := by decide +kernel
theorem dX7_forget_31 : decode cX7_forget 31 = .ok (.aload_n 0, 1) := by decide +kernel
theorem dX7_forget_32 : decode cX7_forget 32 = .ok (.getfield 48, 3) := by decide +kernel
theorem dX7_forget_35 : decode cX7_forget 35 = .ok (.sipush 408, 3) := by decide +kernel
theorem dX7_forget_38 : decode cX7_forget 38 = .ok (.iload_n 1, 1) := by decide +kernel
theorem dX7_forget_39 : decode cX7_forget 39 = .ok (.iadd, 1) := by decide +kernel
theorem dX7_forget_40 : decode cX7_forget 40 = .ok (.bipush 8, 2) := by decide +kernel
theorem dX7_forget_42 : decode cX7_forget 42 = .ok (.isub, 1) := by decide +kernel
theorem dX7_forget_43 : decode cX7_forget 43 = .ok (.iconst (-1), 1) := by decide +kernel
theorem dX7_forget_44 : decode cX7_forget 44 = .ok (.iastore, 1) := by decide +kernel
theorem dX7_forget_45 : decode cX7_forget 45 = .ok (.aload_n 0, 1) := by decide +kernel
theorem dX7_forget_46 : decode cX7_forget 46 = .ok (.getfield 48, 3) := by decide +kernel
theorem dX7_forget_49 : decode cX7_forget 49 = .ok (.aload_n 0, 1) := by decide +kernel
theorem dX7_forget_50 : decode cX7_forget 50 = .ok (.iload_n 1, 1) := by decide +kernel
theorem dX7_forget_51 : decode cX7_forget 51 = .ok (.invokevirtual 98, 3) := by decide +kernel
theorem dX7_forget_54 : decode cX7_forget 54 = .ok (.iconst (-1), 1) := by decide +kernel
theorem dX7_forget_55 : decode cX7_forget 55 = .ok (.iastore, 1) := by decide +kernel
theorem dX7_forget_56 : decode cX7_forget 56 = .ok (.iload_n 2, 1) := by decide +kernel
theorem dX7_forget_57 : decode cX7_forget 57 = .ok (.ifCond .eq 7, 3) := by decide +kernel
theorem dX7_forget_60 : decode cX7_forget 60 = .ok (.iconst 1, 1) := by decide +kernel
theorem dX7_forget_61 : decode cX7_forget 61 = .ok (.goto 4, 3) := by decide +kernel
theorem dX7_forget_64 : decode cX7_forget 64 = .ok (.iconst 0, 1) := by decide +kernel
theorem dX7_forget_65 : decode cX7_forget 65 = .ok (.ireturn, 1) := by decide +kernel
theorem dX7_having_0 : decode cX7_having 0 = .ok (.iconst 0, 1) := by decide +kernel
theorem dX7_having_1 : decode cX7_having 1 = .ok (.istore_n 2, 1) := by decide +kernel
theorem dX7_having_2 : decode cX7_having 2 = .ok (.bipush 8, 2) := by decide +kernel
theorem dX7_having_4 : decode cX7_having 4 = .ok (.istore_n 3, 1) := by decide +kernel
theorem dX7_having_5 : decode cX7_having 5 = .ok (.iload_n 3, 1) := by decide +kernel
theorem dX7_having_6 : decode cX7_having 6 = .ok (.bipush 24, 2) := by decide +kernel
theorem dX7_having_8 : decode cX7_having 8 = .ok (.if_icmp .ge 95, 3) := by decide +kernel
theorem dX7_having_11 : decode cX7_having 11 = .ok (.iload_n 1, 1) := by decide +kernel
theorem dX7_having_12 : decode cX7_having 12 = .ok (.ifCond .ne 20, 3) := by decide +kernel
theorem dX7_having_15 : decode cX7_having 15 = .ok (.aload_n 0, 1) := by decide +kernel
theorem dX7_having_16 : decode cX7_having 16 = .ok (.iload_n 3, 1) := by decide +kernel
theorem dX7_having_17 : decode cX7_having 17 = .ok (.iconst 0, 1) := by decide +kernel
theorem dX7_having_18 : decode cX7_having 18 = .ok (.invokevirtual 140, 3) := by decide +kernel
theorem dX7_having_21 : decode cX7_having 21 = .ok (.ifCond .le 7, 3) := by decide +kernel
theorem dX7_having_24 : decode cX7_having 24 = .ok (.iconst 1, 1) := by decide +kernel
theorem dX7_having_25 : decode cX7_having 25 = .ok (.goto 57, 3) := by decide +kernel
theorem dX7_having_28 : decode cX7_having 28 = .ok (.iconst 0, 1) := by decide +kernel
theorem dX7_having_29 : decode cX7_having 29 = .ok (.goto 53, 3) := by decide +kernel
theorem dX7_having_32 : decode cX7_having 32 = .ok (.iload_n 1, 1) := by decide +kernel
theorem dX7_having_33 : decode cX7_having 33 = .ok (.iconst 1, 1) := by decide +kernel
theorem dX7_having_34 : decode cX7_having 34 = .ok (.if_icmp .ne 19, 3) := by decide +kernel
theorem dX7_having_37 : decode cX7_having 37 = .ok (.aload_n 0, 1) := by decide +kernel
theorem dX7_having_38 : decode cX7_having 38 = .ok (.iload_n 3, 1) := by decide +kernel
theorem dX7_having_39 : decode cX7_having 39 = .ok (.invokevirtual 156, 3) := by decide +kernel
theorem dX7_having_42 : decode cX7_having 42 = .ok (.ifCond .lt 7, 3) := by decide +kernel
theorem dX7_having_45 : decode cX7_having 45 = .ok (.iconst 1, 1) := by decide +kernel
theorem dX7_having_46 : decode cX7_having 46 = .ok (.goto 36, 3) := by decide +kernel
theorem dX7_having_49 : decode cX7_having 49 = .ok (.iconst 0, 1) := by decide +kernel
theorem dX7_having_50 : decode cX7_having 50 = .ok (.goto 32, 3) := by decide +kernel
theorem dX7_having_53 : decode cX7_having 53 = .ok (.iload_n 1, 1) := by decide +kernel
theorem dX7_having_54 : decode cX7_having 54 = .ok (.iconst 2, 1) := by decide +kernel
theorem dX7_having_55 : decode cX7_having 55 = .ok (.if_icmp .ne 14, 3) := by decide +kernel
theorem dX7_having_58 : decode cX7_having 58 = .ok (.aload_n 0, 1) := by decide +kernel
theorem dX7_having_59 : decode cX7_having 59 = .ok (.iload_n 3, 1) := by decide +kernel
theorem dX7_having_60 : decode cX7_having 60 = .ok (.invokevirtual 156, 3) := by decide +kernel
theorem dX7_having_63 : decode cX7_having 63 = .ok (.invokestatic 34, 3) := by decide +kernel
theorem dX7_having_66 : decode cX7_having 66 = .ok (.goto 16, 3) := by decide +kernel
theorem dX7_having_69 : decode cX7_having 69 = .ok (.aload_n 0, 1) := by decide +kernel
theorem dX7_having_70 : decode cX7_having 70 = .ok (.iload_n 3, 1) := by decide +kernel
theorem dX7_having_71 : decode cX7_having 71 = .ok (.invokevirtual 147, 3) := by decide +kernel
theorem dX7_having_74 : decode cX7_having 74 = .ok (.ifCond .lt 7, 3) := by decide +kernel
theorem dX7_having_77 : decode cX7_having 77 = .ok (.iconst 1, 1) := by decide +kernel
theorem dX7_having_78 : decode cX7_having 78 = .ok (.goto 4, 3) := by decide +kernel
theorem dX7_having_81 : decode cX7_having 81 = .ok (.iconst 0, 1) := by decide +kernel
theorem dX7_having_82 : decode cX7_having 82 = .ok (.istore 4, 2) := by decide +kernel
theorem dX7_having_84 : decode cX7_having 84 = .ok (.iload_n 2, 1) := by decide +kernel
theorem dX7_having_85 : decode cX7_having 85 = .ok (.iload 4, 2) := by decide +kernel
theorem dX7_having_87 : decode cX7_having 87 = .ok (.ifCond .eq 7, 3) := by decide +kernel
theorem dX7_having_90 : decode cX7_having 90 = .ok (.iconst 1, 1) := by decide +kernel
theorem dX7_having_91 : decode cX7_having 91 = .ok (.goto 4, 3) := by decide +kernel
theorem dX7_having_94 : decode cX7_having 94 = .ok (.iconst 0, 1) := by decide +kernel
theorem dX7_having_95 : decode cX7_having 95 = .ok (.iadd, 1) := by decide +kernel
theorem dX7_having_96 : decode cX7_having 96 = .ok (.istore_n 2, 1) := by decide +kernel
theorem dX7_having_97 : decode cX7_having 97 = .ok (.iinc 3 1, 3) := by decide +kernel
theorem dX7_having_100 : decode cX7_having 100 = .ok (.goto (-95), 3) := by decide +kernel
theorem dX7_having_103 : decode cX7_having 103 = .ok (.iload_n 2, 1) := by decide +kernel
theorem dX7_having_104 : decode cX7_having 104 = .ok (.ireturn, 1) := by decide +kernel
theorem dX7_told_0 : decode cX7_told 0 = .ok (.iload_n 1, 1) := by decide +kernel
theorem dX7_told_1 : decode cX7_told 1 = .ok (.tableswitch 102 0 10 #[59, 64, 69, 74, 79, 79, 79, 79, 87, 92, 97], 59) := by decide +kernel
theorem dX7_told_60 : decode cX7_told 60 = .ok (.aload_n 0, 1) := by decide +kernel
theorem dX7_told_61 : decode cX7_told 61 = .ok (.getfield 178, 3) := by decide +kernel
theorem dX7_told_64 : decode cX7_told 64 = .ok (.ireturn, 1) := by decide +kernel
theorem dX7_told_65 : decode cX7_told 65 = .ok (.aload_n 0, 1) := by decide +kernel
theorem dX7_told_66 : decode cX7_told 66 = .ok (.getfield 184, 3) := by decide +kernel
theorem dX7_told_69 : decode cX7_told 69 = .ok (.ireturn, 1) := by decide +kernel
theorem dX7_told_70 : decode cX7_told 70 = .ok (.aload_n 0, 1) := by decide +kernel
theorem dX7_told_71 : decode cX7_told 71 = .ok (.getfield 153, 3) := by decide +kernel
theorem dX7_told_74 : decode cX7_told 74 = .ok (.ireturn, 1) := by decide +kernel
theorem dX7_told_75 : decode cX7_told 75 = .ok (.aload_n 0, 1) := by decide +kernel
theorem dX7_told_76 : decode cX7_told 76 = .ok (.getfield 162, 3) := by decide +kernel
theorem dX7_told_79 : decode cX7_told 79 = .ok (.ireturn, 1) := by decide +kernel
theorem dX7_told_80 : decode cX7_told 80 = .ok (.aload_n 0, 1) := by decide +kernel
theorem dX7_told_81 : decode cX7_told 81 = .ok (.iload_n 1, 1) := by decide +kernel
theorem dX7_told_82 : decode cX7_told 82 = .ok (.iconst 4, 1) := by decide +kernel
theorem dX7_told_83 : decode cX7_told 83 = .ok (.isub, 1) := by decide +kernel
theorem dX7_told_84 : decode cX7_told 84 = .ok (.invokevirtual 231, 3) := by decide +kernel
theorem dX7_told_87 : decode cX7_told 87 = .ok (.ireturn, 1) := by decide +kernel
theorem dX7_told_88 : decode cX7_told 88 = .ok (.aload_n 0, 1) := by decide +kernel
theorem dX7_told_89 : decode cX7_told 89 = .ok (.getfield 120, 3) := by decide +kernel
theorem dX7_told_92 : decode cX7_told 92 = .ok (.ireturn, 1) := by decide +kernel
theorem dX7_told_93 : decode cX7_told 93 = .ok (.aload_n 0, 1) := by decide +kernel
theorem dX7_told_94 : decode cX7_told 94 = .ok (.getfield 144, 3) := by decide +kernel
theorem dX7_told_97 : decode cX7_told 97 = .ok (.ireturn, 1) := by decide +kernel
theorem dX7_told_98 : decode cX7_told 98 = .ok (.aload_n 0, 1) := by decide +kernel
theorem dX7_told_99 : decode cX7_told 99 = .ok (.getfield 70, 3) := by decide +kernel
theorem dX7_told_102 : decode cX7_told 102 = .ok (.ireturn, 1) := by decide +kernel
theorem dX7_told_103 : decode cX7_told 103 = .ok (.iconst (-1), 1) := by decide +kernel
theorem dX7_told_104 : decode cX7_told 104 = .ok (.ireturn, 1) := by decide +kernel
theorem dX7_isList_0 : decode cX7_isList 0 = .ok (.iload_n 0, 1) := by decide +kernel
theorem dX7_isList_1 : decode cX7_isList 1 = .ok (.i2l, 1) := by decide +kernel
theorem dX7_isList_2 : decode cX7_isList 2 = .ok (.lconst 0, 1) := by decide +kernel
theorem dX7_isList_3 : decode cX7_isList 3 = .ok (.ldc2_w 234, 3) := by decide +kernel
theorem dX7_isList_6 : decode cX7_isList 6 = .ok (.invokestatic 7, 3) := by decide +kernel
theorem dX7_isList_9 : decode cX7_isList 9 = .ok (.ireturn, 1) := by decide +kernel
theorem dX7_list_0 : decode cX7_list 0 = .ok (.iload_n 1, 1) := by decide +kernel
theorem dX7_list_1 : decode cX7_list 1 = .ok (.invokestatic 236, 3) := by decide +kernel
theorem dX7_list_4 : decode cX7_list 4 = .ok (.ifCond .ne 5, 3) := by decide +kernel
theorem dX7_list_7 : decode cX7_list 7 = .ok (.iconst (-1), 1) := by decide +kernel
theorem dX7_list_8 : decode cX7_list 8 = .ok (.ireturn, 1) := by decide +kernel
theorem dX7_list_9 : decode cX7_list 9 = .ok (.iload_n 2, 1) := by decide +kernel
theorem dX7_list_10 : decode cX7_list 10 = .ok (.bipush 20, 2) := by decide +kernel
theorem dX7_list_12 : decode cX7_list 12 = .ok (.if_icmp .le 6, 3) := by decide +kernel
theorem dX7_list_15 : decode cX7_list 15 = .ok (.bipush (-2), 2) := by decide +kernel
theorem dX7_list_17 : decode cX7_list 17 = .ok (.ireturn, 1) := by decide +kernel
theorem dX7_list_18 : decode cX7_list 18 = .ok (.iload_n 2, 1) := by decide +kernel
theorem dX7_list_19 : decode cX7_list 19 = .ok (.ifCond .ge 6, 3) := by decide +kernel
theorem dX7_list_22 : decode cX7_list 22 = .ok (.bipush (-14), 2) := by decide +kernel
theorem dX7_list_24 : decode cX7_list 24 = .ok (.ireturn, 1) := by decide +kernel
theorem dX7_list_25 : decode cX7_list 25 = .ok (.aload_n 0, 1) := by decide +kernel
theorem dX7_list_26 : decode cX7_list 26 = .ok (.getfield 88, 3) := by decide +kernel
theorem dX7_list_29 : decode cX7_list 29 = .ok (.iload_n 1, 1) := by decide +kernel
theorem dX7_list_30 : decode cX7_list 30 = .ok (.iload_n 2, 1) := by decide +kernel
theorem dX7_list_31 : decode cX7_list 31 = .ok (.iastore, 1) := by decide +kernel
theorem dX7_list_32 : decode cX7_list 32 = .ok (.iconst 0, 1) := by decide +kernel
theorem dX7_list_33 : decode cX7_list 33 = .ok (.istore_n 3, 1) := by decide +kernel
theorem dX7_list_34 : decode cX7_list 34 = .ok (.iload_n 3, 1) := by decide +kernel
theorem dX7_list_35 : decode cX7_list 35 = .ok (.bipush 20, 2) := by decide +kernel
theorem dX7_list_37 : decode cX7_list 37 = .ok (.if_icmp .ge 21, 3) := by decide +kernel
theorem dX7_list_40 : decode cX7_list 40 = .ok (.aload_n 0, 1) := by decide +kernel
theorem dX7_list_41 : decode cX7_list 41 = .ok (.getfield 91, 3) := by decide +kernel
theorem dX7_list_44 : decode cX7_list 44 = .ok (.bipush 20, 2) := by decide +kernel
theorem dX7_list_46 : decode cX7_list 46 = .ok (.iload_n 1, 1) := by decide +kernel
theorem dX7_list_47 : decode cX7_list 47 = .ok (.imul, 1) := by decide +kernel
theorem dX7_list_48 : decode cX7_list 48 = .ok (.iload_n 3, 1) := by decide +kernel
theorem dX7_list_49 : decode cX7_list 49 = .ok (.iadd, 1) := by decide +kernel
theorem dX7_list_50 : decode cX7_list 50 = .ok (.lconst 0, 1) := by decide +kernel
theorem dX7_list_51 : decode cX7_list 51 = .ok (.lastore, 1) := by decide +kernel
theorem dX7_list_52 : decode cX7_list 52 = .ok (.iinc 3 1, 3) := by decide +kernel
theorem dX7_list_55 : decode cX7_list 55 = .ok (.goto (-21), 3) := by decide +kernel
theorem dX7_list_58 : decode cX7_list 58 = .ok (.iconst 1, 1) := by decide +kernel
theorem dX7_list_59 : decode cX7_list 59 = .ok (.ireturn, 1) := by decide +kernel
theorem dX7_put_0 : decode cX7_put 0 = .ok (.iload_n 1, 1) := by decide +kernel
theorem dX7_put_1 : decode cX7_put 1 = .ok (.invokestatic 236, 3) := by decide +kernel
theorem dX7_put_4 : decode cX7_put 4 = .ok (.ifCond .ne 5, 3) := by decide +kernel
theorem dX7_put_7 : decode cX7_put 7 = .ok (.iconst (-1), 1) := by decide +kernel
theorem dX7_put_8 : decode cX7_put 8 = .ok (.ireturn, 1) := by decide +kernel
theorem dX7_put_9 : decode cX7_put 9 = .ok (.aload_n 0, 1) := by decide +kernel
theorem dX7_put_10 : decode cX7_put 10 = .ok (.getfield 88, 3) := by decide +kernel
theorem dX7_put_13 : decode cX7_put 13 = .ok (.iload_n 1, 1) := by decide +kernel
theorem dX7_put_14 : decode cX7_put 14 = .ok (.iaload, 1) := by decide +kernel
theorem dX7_put_15 : decode cX7_put 15 = .ok (.ifCond .ge 6, 3) := by decide +kernel
theorem dX7_put_18 : decode cX7_put 18 = .ok (.bipush (-11), 2) := by decide +kernel
theorem dX7_put_20 : decode cX7_put 20 = .ok (.ireturn, 1) := by decide +kernel
theorem dX7_put_21 : decode cX7_put 21 = .ok (.iload_n 2, 1) := by decide +kernel
theorem dX7_put_22 : decode cX7_put 22 = .ok (.i2l, 1) := by decide +kernel
theorem dX7_put_23 : decode cX7_put 23 = .ok (.lconst 0, 1) := by decide +kernel
theorem dX7_put_24 : decode cX7_put 24 = .ok (.aload_n 0, 1) := by decide +kernel
theorem dX7_put_25 : decode cX7_put 25 = .ok (.getfield 88, 3) := by decide +kernel
theorem dX7_put_28 : decode cX7_put 28 = .ok (.iload_n 1, 1) := by decide +kernel
theorem dX7_put_29 : decode cX7_put 29 = .ok (.iaload, 1) := by decide +kernel
theorem dX7_put_30 : decode cX7_put 30 = .ok (.iconst 1, 1) := by decide +kernel
theorem dX7_put_31 : decode cX7_put 31 = .ok (.isub, 1) := by decide +kernel
theorem dX7_put_32 : decode cX7_put 32 = .ok (.i2l, 1) := by decide +kernel
theorem dX7_put_33 : decode cX7_put 33 = .ok (.invokestatic 7, 3) := by decide +kernel
theorem dX7_put_36 : decode cX7_put 36 = .ok (.ifCond .ne 6, 3) := by decide +kernel
theorem dX7_put_39 : decode cX7_put 39 = .ok (.bipush (-13), 2) := by decide +kernel
theorem dX7_put_41 : decode cX7_put 41 = .ok (.ireturn, 1) := by decide +kernel
theorem dX7_put_42 : decode cX7_put 42 = .ok (.aload_n 0, 1) := by decide +kernel
theorem dX7_put_43 : decode cX7_put 43 = .ok (.getfield 91, 3) := by decide +kernel
theorem dX7_put_46 : decode cX7_put 46 = .ok (.bipush 20, 2) := by decide +kernel
theorem dX7_put_48 : decode cX7_put 48 = .ok (.iload_n 1, 1) := by decide +kernel
theorem dX7_put_49 : decode cX7_put 49 = .ok (.imul, 1) := by decide +kernel
theorem dX7_put_50 : decode cX7_put 50 = .ok (.iload_n 2, 1) := by decide +kernel
theorem dX7_put_51 : decode cX7_put 51 = .ok (.iadd, 1) := by decide +kernel
theorem dX7_put_52 : decode cX7_put 52 = .ok (.lload_n 3, 1) := by decide +kernel
theorem dX7_put_53 : decode cX7_put 53 = .ok (.lastore, 1) := by decide +kernel
theorem dX7_put_54 : decode cX7_put 54 = .ok (.iconst 1, 1) := by decide +kernel
theorem dX7_put_55 : decode cX7_put 55 = .ok (.ireturn, 1) := by decide +kernel
theorem dX7_get_0 : decode cX7_get 0 = .ok (.iload_n 1, 1) := by decide +kernel
theorem dX7_get_1 : decode cX7_get 1 = .ok (.invokestatic 236, 3) := by decide +kernel
theorem dX7_get_4 : decode cX7_get 4 = .ok (.ifCond .eq 35, 3) := by decide +kernel
theorem dX7_get_7 : decode cX7_get 7 = .ok (.iload_n 2, 1) := by decide +kernel
theorem dX7_get_8 : decode cX7_get 8 = .ok (.i2l, 1) := by decide +kernel
theorem dX7_get_9 : decode cX7_get 9 = .ok (.lconst 0, 1) := by decide +kernel
theorem dX7_get_10 : decode cX7_get 10 = .ok (.aload_n 0, 1) := by decide +kernel
theorem dX7_get_11 : decode cX7_get 11 = .ok (.getfield 88, 3) := by decide +kernel
theorem dX7_get_14 : decode cX7_get 14 = .ok (.iload_n 1, 1) := by decide +kernel
theorem dX7_get_15 : decode cX7_get 15 = .ok (.iaload, 1) := by decide +kernel
theorem dX7_get_16 : decode cX7_get 16 = .ok (.iconst 1, 1) := by decide +kernel
theorem dX7_get_17 : decode cX7_get 17 = .ok (.isub, 1) := by decide +kernel
theorem dX7_get_18 : decode cX7_get 18 = .ok (.i2l, 1) := by decide +kernel
theorem dX7_get_19 : decode cX7_get 19 = .ok (.invokestatic 7, 3) := by decide +kernel
theorem dX7_get_22 : decode cX7_get 22 = .ok (.ifCond .eq 17, 3) := by decide +kernel
theorem dX7_get_25 : decode cX7_get 25 = .ok (.aload_n 0, 1) := by decide +kernel
theorem dX7_get_26 : decode cX7_get 26 = .ok (.getfield 91, 3) := by decide +kernel
theorem dX7_get_29 : decode cX7_get 29 = .ok (.bipush 20, 2) := by decide +kernel
theorem dX7_get_31 : decode cX7_get 31 = .ok (.iload_n 1, 1) := by decide +kernel
theorem dX7_get_32 : decode cX7_get 32 = .ok (.imul, 1) := by decide +kernel
theorem dX7_get_33 : decode cX7_get 33 = .ok (.iload_n 2, 1) := by decide +kernel
theorem dX7_get_34 : decode cX7_get 34 = .ok (.iadd, 1) := by decide +kernel
theorem dX7_get_35 : decode cX7_get 35 = .ok (.laload, 1) := by decide +kernel
theorem dX7_get_36 : decode cX7_get 36 = .ok (.goto 6, 3) := by decide +kernel
theorem dX7_get_39 : decode cX7_get 39 = .ok (.ldc2_w 239, 3) := by decide +kernel
theorem dX7_get_42 : decode cX7_get 42 = .ok (.lreturn, 1) := by decide +kernel
theorem dX7_move_0 : decode cX7_move 0 = .ok (.iload_n 1, 1) := by decide +kernel
theorem dX7_move_1 : decode cX7_move 1 = .ok (.invokestatic 236, 3) := by decide +kernel
theorem dX7_move_4 : decode cX7_move 4 = .ok (.ifCond .eq 10, 3) := by decide +kernel
theorem dX7_move_7 : decode cX7_move 7 = .ok (.iload_n 3, 1) := by decide +kernel
theorem dX7_move_8 : decode cX7_move 8 = .ok (.invokestatic 236, 3) := by decide +kernel
theorem dX7_move_11 : decode cX7_move 11 = .ok (.ifCond .ne 5, 3) := by decide +kernel
theorem dX7_move_14 : decode cX7_move 14 = .ok (.iconst (-1), 1) := by decide +kernel
theorem dX7_move_15 : decode cX7_move 15 = .ok (.ireturn, 1) := by decide +kernel
theorem dX7_move_16 : decode cX7_move 16 = .ok (.aload_n 0, 1) := by decide +kernel
theorem dX7_move_17 : decode cX7_move 17 = .ok (.getfield 88, 3) := by decide +kernel
theorem dX7_move_20 : decode cX7_move 20 = .ok (.iload_n 1, 1) := by decide +kernel
theorem dX7_move_21 : decode cX7_move 21 = .ok (.iaload, 1) := by decide +kernel
theorem dX7_move_22 : decode cX7_move 22 = .ok (.ifCond .lt 12, 3) := by decide +kernel
theorem dX7_move_25 : decode cX7_move 25 = .ok (.aload_n 0, 1) := by decide +kernel
theorem dX7_move_26 : decode cX7_move 26 = .ok (.getfield 88, 3) := by decide +kernel
theorem dX7_move_29 : decode cX7_move 29 = .ok (.iload_n 3, 1) := by decide +kernel
theorem dX7_move_30 : decode cX7_move 30 = .ok (.iaload, 1) := by decide +kernel
theorem dX7_move_31 : decode cX7_move 31 = .ok (.ifCond .ge 6, 3) := by decide +kernel
theorem dX7_move_34 : decode cX7_move 34 = .ok (.bipush (-11), 2) := by decide +kernel
theorem dX7_move_36 : decode cX7_move 36 = .ok (.ireturn, 1) := by decide +kernel
theorem dX7_move_37 : decode cX7_move 37 = .ok (.iload 5, 2) := by decide +kernel
theorem dX7_move_39 : decode cX7_move 39 = .ok (.ifCond .lt 39, 3) := by decide +kernel
theorem dX7_move_42 : decode cX7_move 42 = .ok (.iload_n 2, 1) := by decide +kernel
theorem dX7_move_43 : decode cX7_move 43 = .ok (.ifCond .lt 35, 3) := by decide +kernel
theorem dX7_move_46 : decode cX7_move 46 = .ok (.iload 4, 2) := by decide +kernel
theorem dX7_move_48 : decode cX7_move 48 = .ok (.ifCond .lt 30, 3) := by decide +kernel
theorem dX7_move_51 : decode cX7_move 51 = .ok (.iload 5, 2) := by decide +kernel
theorem dX7_move_53 : decode cX7_move 53 = .ok (.aload_n 0, 1) := by decide +kernel
theorem dX7_move_54 : decode cX7_move 54 = .ok (.getfield 88, 3) := by decide +kernel
theorem dX7_move_57 : decode cX7_move 57 = .ok (.iload_n 1, 1) := by decide +kernel
theorem dX7_move_58 : decode cX7_move 58 = .ok (.iaload, 1) := by decide +kernel
theorem dX7_move_59 : decode cX7_move 59 = .ok (.iload_n 2, 1) := by decide +kernel
theorem dX7_move_60 : decode cX7_move 60 = .ok (.isub, 1) := by decide +kernel
theorem dX7_move_61 : decode cX7_move 61 = .ok (.if_icmp .gt 17, 3) := by decide +kernel
theorem dX7_move_64 : decode cX7_move 64 = .ok (.iload 5, 2) := by decide +kernel
theorem dX7_move_66 : decode cX7_move 66 = .ok (.aload_n 0, 1) := by decide +kernel
theorem dX7_move_67 : decode cX7_move 67 = .ok (.getfield 88, 3) := by decide +kernel
theorem dX7_move_70 : decode cX7_move 70 = .ok (.iload_n 3, 1) := by decide +kernel
theorem dX7_move_71 : decode cX7_move 71 = .ok (.iaload, 1) := by decide +kernel
theorem dX7_move_72 : decode cX7_move 72 = .ok (.iload 4, 2) := by decide +kernel
theorem dX7_move_74 : decode cX7_move 74 = .ok (.isub, 1) := by decide +kernel
theorem dX7_move_75 : decode cX7_move 75 = .ok (.if_icmp .le 6, 3) := by decide +kernel
theorem dX7_move_78 : decode cX7_move 78 = .ok (.bipush (-13), 2) := by decide +kernel
theorem dX7_move_80 : decode cX7_move 80 = .ok (.ireturn, 1) := by decide +kernel
theorem dX7_move_81 : decode cX7_move 81 = .ok (.iconst 0, 1) := by decide +kernel
theorem dX7_move_82 : decode cX7_move 82 = .ok (.istore 6, 2) := by decide +kernel
theorem dX7_move_84 : decode cX7_move 84 = .ok (.iload 6, 2) := by decide +kernel
theorem dX7_move_86 : decode cX7_move 86 = .ok (.iload 5, 2) := by decide +kernel
theorem dX7_move_88 : decode cX7_move 88 = .ok (.if_icmp .ge 30, 3) := by decide +kernel
theorem dX7_move_91 : decode cX7_move 91 = .ok (.aload_n 0, 1) := by decide +kernel
theorem dX7_move_92 : decode cX7_move 92 = .ok (.getfield 95, 3) := by decide +kernel
theorem dX7_move_95 : decode cX7_move 95 = .ok (.iload 6, 2) := by decide +kernel
theorem dX7_move_97 : decode cX7_move 97 = .ok (.aload_n 0, 1) := by decide +kernel
theorem dX7_move_98 : decode cX7_move 98 = .ok (.getfield 91, 3) := by decide +kernel
theorem dX7_move_101 : decode cX7_move 101 = .ok (.bipush 20, 2) := by decide +kernel
theorem dX7_move_103 : decode cX7_move 103 = .ok (.iload_n 1, 1) := by decide +kernel
theorem dX7_move_104 : decode cX7_move 104 = .ok (.imul, 1) := by decide +kernel
theorem dX7_move_105 : decode cX7_move 105 = .ok (.iload_n 2, 1) := by decide +kernel
theorem dX7_move_106 : decode cX7_move 106 = .ok (.iadd, 1) := by decide +kernel
theorem dX7_move_107 : decode cX7_move 107 = .ok (.iload 6, 2) := by decide +kernel
theorem dX7_move_109 : decode cX7_move 109 = .ok (.iadd, 1) := by decide +kernel
theorem dX7_move_110 : decode cX7_move 110 = .ok (.laload, 1) := by decide +kernel
theorem dX7_move_111 : decode cX7_move 111 = .ok (.lastore, 1) := by decide +kernel
theorem dX7_move_112 : decode cX7_move 112 = .ok (.iinc 6 1, 3) := by decide +kernel
theorem dX7_move_115 : decode cX7_move 115 = .ok (.goto (-31), 3) := by decide +kernel
theorem dX7_move_118 : decode cX7_move 118 = .ok (.iconst 0, 1) := by decide +kernel
theorem dX7_move_119 : decode cX7_move 119 = .ok (.istore 6, 2) := by decide +kernel
theorem dX7_move_121 : decode cX7_move 121 = .ok (.iload 6, 2) := by decide +kernel
theorem dX7_move_123 : decode cX7_move 123 = .ok (.iload 5, 2) := by decide +kernel
theorem dX7_move_125 : decode cX7_move 125 = .ok (.if_icmp .ge 31, 3) := by decide +kernel
theorem dX7_move_128 : decode cX7_move 128 = .ok (.aload_n 0, 1) := by decide +kernel
theorem dX7_move_129 : decode cX7_move 129 = .ok (.getfield 91, 3) := by decide +kernel
theorem dX7_move_132 : decode cX7_move 132 = .ok (.bipush 20, 2) := by decide +kernel
theorem dX7_move_134 : decode cX7_move 134 = .ok (.iload_n 3, 1) := by decide +kernel
theorem dX7_move_135 : decode cX7_move 135 = .ok (.imul, 1) := by decide +kernel
theorem dX7_move_136 : decode cX7_move 136 = .ok (.iload 4, 2) := by decide +kernel
theorem dX7_move_138 : decode cX7_move 138 = .ok (.iadd, 1) := by decide +kernel
theorem dX7_move_139 : decode cX7_move 139 = .ok (.iload 6, 2) := by decide +kernel
theorem dX7_move_141 : decode cX7_move 141 = .ok (.iadd, 1) := by decide +kernel
theorem dX7_move_142 : decode cX7_move 142 = .ok (.aload_n 0, 1) := by decide +kernel
theorem dX7_move_143 : decode cX7_move 143 = .ok (.getfield 95, 3) := by decide +kernel
theorem dX7_move_146 : decode cX7_move 146 = .ok (.iload 6, 2) := by decide +kernel
theorem dX7_move_148 : decode cX7_move 148 = .ok (.laload, 1) := by decide +kernel
theorem dX7_move_149 : decode cX7_move 149 = .ok (.lastore, 1) := by decide +kernel
theorem dX7_move_150 : decode cX7_move 150 = .ok (.iinc 6 1, 3) := by decide +kernel
theorem dX7_move_153 : decode cX7_move 153 = .ok (.goto (-32), 3) := by decide +kernel
theorem dX7_move_156 : decode cX7_move 156 = .ok (.iload 5, 2) := by decide +kernel
theorem dX7_move_158 : decode cX7_move 158 = .ok (.ireturn, 1) := by decide +kernel
theorem dX7_lay_0 : decode cX7_lay 0 = .ok (.iload_n 1, 1) := by decide +kernel
theorem dX7_lay_1 : decode cX7_lay 1 = .ok (.invokestatic 236, 3) := by decide +kernel
theorem dX7_lay_4 : decode cX7_lay 4 = .ok (.ifCond .ne 5, 3) := by decide +kernel
theorem dX7_lay_7 : decode cX7_lay 7 = .ok (.iconst (-1), 1) := by decide +kernel
theorem dX7_lay_8 : decode cX7_lay 8 = .ok (.ireturn, 1) := by decide +kernel
theorem dX7_lay_9 : decode cX7_lay 9 = .ok (.aload_n 0, 1) := by decide +kernel
theorem dX7_lay_10 : decode cX7_lay 10 = .ok (.getfield 88, 3) := by decide +kernel
theorem dX7_lay_13 : decode cX7_lay 13 = .ok (.iload_n 1, 1) := by decide +kernel
theorem dX7_lay_14 : decode cX7_lay 14 = .ok (.iaload, 1) := by decide +kernel
theorem dX7_lay_15 : decode cX7_lay 15 = .ok (.ifCond .ge 6, 3) := by decide +kernel
theorem dX7_lay_18 : decode cX7_lay 18 = .ok (.bipush (-11), 2) := by decide +kernel
theorem dX7_lay_20 : decode cX7_lay 20 = .ok (.ireturn, 1) := by decide +kernel
theorem dX7_lay_21 : decode cX7_lay 21 = .ok (.iconst 0, 1) := by decide +kernel
theorem dX7_lay_22 : decode cX7_lay 22 = .ok (.istore_n 3, 1) := by decide +kernel
theorem dX7_lay_23 : decode cX7_lay 23 = .ok (.iload_n 3, 1) := by decide +kernel
theorem dX7_lay_24 : decode cX7_lay 24 = .ok (.bipush 16, 2) := by decide +kernel
theorem dX7_lay_26 : decode cX7_lay 26 = .ok (.if_icmp .ge 60, 3) := by decide +kernel
theorem dX7_lay_29 : decode cX7_lay 29 = .ok (.iload_n 2, 1) := by decide +kernel
theorem dX7_lay_30 : decode cX7_lay 30 = .ok (.ifCond .lt 19, 3) := by decide +kernel
theorem dX7_lay_33 : decode cX7_lay 33 = .ok (.iload_n 2, 1) := by decide +kernel
theorem dX7_lay_34 : decode cX7_lay 34 = .ok (.i2l, 1) := by decide +kernel
theorem dX7_lay_35 : decode cX7_lay 35 = .ok (.iload_n 3, 1) := by decide +kernel
theorem dX7_lay_36 : decode cX7_lay 36 = .ok (.i2l, 1) := by decide +kernel
theorem dX7_lay_37 : decode cX7_lay 37 = .ok (.ladd, 1) := by decide +kernel
theorem dX7_lay_38 : decode cX7_lay 38 = .ok (.aload_n 0, 1) := by decide +kernel
theorem dX7_lay_39 : decode cX7_lay 39 = .ok (.getfield 88, 3) := by decide +kernel
theorem dX7_lay_42 : decode cX7_lay 42 = .ok (.iload_n 1, 1) := by decide +kernel
theorem dX7_lay_43 : decode cX7_lay 43 = .ok (.iaload, 1) := by decide +kernel
theorem dX7_lay_44 : decode cX7_lay 44 = .ok (.i2l, 1) := by decide +kernel
theorem dX7_lay_45 : decode cX7_lay 45 = .ok (.lcmp, 1) := by decide +kernel
theorem dX7_lay_46 : decode cX7_lay 46 = .ok (.ifCond .lt 6, 3) := by decide +kernel
theorem dX7_lay_49 : decode cX7_lay 49 = .ok (.bipush (-13), 2) := by decide +kernel
theorem dX7_lay_51 : decode cX7_lay 51 = .ok (.ireturn, 1) := by decide +kernel
theorem dX7_lay_52 : decode cX7_lay 52 = .ok (.aload_n 0, 1) := by decide +kernel
theorem dX7_lay_53 : decode cX7_lay 53 = .ok (.getfield 91, 3) := by decide +kernel
theorem dX7_lay_56 : decode cX7_lay 56 = .ok (.bipush 20, 2) := by decide +kernel
theorem dX7_lay_58 : decode cX7_lay 58 = .ok (.iload_n 1, 1) := by decide +kernel
theorem dX7_lay_59 : decode cX7_lay 59 = .ok (.imul, 1) := by decide +kernel
theorem dX7_lay_60 : decode cX7_lay 60 = .ok (.iload_n 2, 1) := by decide +kernel
theorem dX7_lay_61 : decode cX7_lay 61 = .ok (.iadd, 1) := by decide +kernel
theorem dX7_lay_62 : decode cX7_lay 62 = .ok (.iload_n 3, 1) := by decide +kernel
theorem dX7_lay_63 : decode cX7_lay 63 = .ok (.iadd, 1) := by decide +kernel
theorem dX7_lay_64 : decode cX7_lay 64 = .ok (.aload_n 0, 1) := by decide +kernel
theorem dX7_lay_65 : decode cX7_lay 65 = .ok (.aload_n 0, 1) := by decide +kernel
theorem dX7_lay_66 : decode cX7_lay 66 = .ok (.getfield 48, 3) := by decide +kernel
theorem dX7_lay_69 : decode cX7_lay 69 = .ok (.sipush 408, 3) := by decide +kernel
theorem dX7_lay_72 : decode cX7_lay 72 = .ok (.iload_n 3, 1) := by decide +kernel
theorem dX7_lay_73 : decode cX7_lay 73 = .ok (.iadd, 1) := by decide +kernel
theorem dX7_lay_74 : decode cX7_lay 74 = .ok (.iaload, 1) := by decide +kernel
theorem dX7_lay_75 : decode cX7_lay 75 = .ok (.invokevirtual 211, 3) := by decide +kernel
theorem dX7_lay_78 : decode cX7_lay 78 = .ok (.i2l, 1) := by decide +kernel
theorem dX7_lay_79 : decode cX7_lay 79 = .ok (.lastore, 1) := by decide +kernel
theorem dX7_lay_80 : decode cX7_lay 80 = .ok (.iinc 3 1, 3) := by decide +kernel
theorem dX7_lay_83 : decode cX7_lay 83 = .ok (.goto (-60), 3) := by decide +kernel
theorem dX7_lay_86 : decode cX7_lay 86 = .ok (.bipush 16, 2) := by decide +kernel
theorem dX7_lay_88 : decode cX7_lay 88 = .ok (.ireturn, 1) := by decide +kernel
theorem dX7_judge_0 : decode cX7_judge 0 = .ok (.iload_n 1, 1) := by decide +kernel
theorem dX7_judge_1 : decode cX7_judge 1 = .ok (.invokestatic 236, 3) := by decide +kernel
theorem dX7_judge_4 : decode cX7_judge 4 = .ok (.ifCond .ne 5, 3) := by decide +kernel
theorem dX7_judge_7 : decode cX7_judge 7 = .ok (.iconst (-1), 1) := by decide +kernel
theorem dX7_judge_8 : decode cX7_judge 8 = .ok (.ireturn, 1) := by decide +kernel
theorem dX7_judge_9 : decode cX7_judge 9 = .ok (.aload_n 0, 1) := by decide +kernel
theorem dX7_judge_10 : decode cX7_judge 10 = .ok (.getfield 88, 3) := by decide +kernel
theorem dX7_judge_13 : decode cX7_judge 13 = .ok (.iload_n 1, 1) := by decide +kernel
theorem dX7_judge_14 : decode cX7_judge 14 = .ok (.iaload, 1) := by decide +kernel
theorem dX7_judge_15 : decode cX7_judge 15 = .ok (.ifCond .ge 6, 3) := by decide +kernel
theorem dX7_judge_18 : decode cX7_judge 18 = .ok (.bipush (-11), 2) := by decide +kernel
theorem dX7_judge_20 : decode cX7_judge 20 = .ok (.ireturn, 1) := by decide +kernel
theorem dX7_judge_21 : decode cX7_judge 21 = .ok (.iconst 0, 1) := by decide +kernel
theorem dX7_judge_22 : decode cX7_judge 22 = .ok (.istore_n 3, 1) := by decide +kernel
theorem dX7_judge_23 : decode cX7_judge 23 = .ok (.iload_n 3, 1) := by decide +kernel
theorem dX7_judge_24 : decode cX7_judge 24 = .ok (.bipush 16, 2) := by decide +kernel
theorem dX7_judge_26 : decode cX7_judge 26 = .ok (.if_icmp .ge 68, 3) := by decide +kernel
theorem dX7_judge_29 : decode cX7_judge 29 = .ok (.iload_n 2, 1) := by decide +kernel
theorem dX7_judge_30 : decode cX7_judge 30 = .ok (.ifCond .lt 19, 3) := by decide +kernel
theorem dX7_judge_33 : decode cX7_judge 33 = .ok (.iload_n 2, 1) := by decide +kernel
theorem dX7_judge_34 : decode cX7_judge 34 = .ok (.i2l, 1) := by decide +kernel
theorem dX7_judge_35 : decode cX7_judge 35 = .ok (.iload_n 3, 1) := by decide +kernel
theorem dX7_judge_36 : decode cX7_judge 36 = .ok (.i2l, 1) := by decide +kernel
theorem dX7_judge_37 : decode cX7_judge 37 = .ok (.ladd, 1) := by decide +kernel
theorem dX7_judge_38 : decode cX7_judge 38 = .ok (.aload_n 0, 1) := by decide +kernel
theorem dX7_judge_39 : decode cX7_judge 39 = .ok (.getfield 88, 3) := by decide +kernel
theorem dX7_judge_42 : decode cX7_judge 42 = .ok (.iload_n 1, 1) := by decide +kernel
theorem dX7_judge_43 : decode cX7_judge 43 = .ok (.iaload, 1) := by decide +kernel
theorem dX7_judge_44 : decode cX7_judge 44 = .ok (.i2l, 1) := by decide +kernel
theorem dX7_judge_45 : decode cX7_judge 45 = .ok (.lcmp, 1) := by decide +kernel
theorem dX7_judge_46 : decode cX7_judge 46 = .ok (.ifCond .lt 8, 3) := by decide +kernel
theorem dX7_judge_49 : decode cX7_judge 49 = .ok (.bipush 100, 2) := by decide +kernel
theorem dX7_judge_51 : decode cX7_judge 51 = .ok (.iload_n 3, 1) := by decide +kernel
theorem dX7_judge_52 : decode cX7_judge 52 = .ok (.iadd, 1) := by decide +kernel
theorem dX7_judge_53 : decode cX7_judge 53 = .ok (.ireturn, 1) := by decide +kernel
theorem dX7_judge_54 : decode cX7_judge 54 = .ok (.aload_n 0, 1) := by decide +kernel
theorem dX7_judge_55 : decode cX7_judge 55 = .ok (.getfield 91, 3) := by decide +kernel
theorem dX7_judge_58 : decode cX7_judge 58 = .ok (.bipush 20, 2) := by decide +kernel
theorem dX7_judge_60 : decode cX7_judge 60 = .ok (.iload_n 1, 1) := by decide +kernel
theorem dX7_judge_61 : decode cX7_judge 61 = .ok (.imul, 1) := by decide +kernel
theorem dX7_judge_62 : decode cX7_judge 62 = .ok (.iload_n 2, 1) := by decide +kernel
theorem dX7_judge_63 : decode cX7_judge 63 = .ok (.iadd, 1) := by decide +kernel
theorem dX7_judge_64 : decode cX7_judge 64 = .ok (.iload_n 3, 1) := by decide +kernel
theorem dX7_judge_65 : decode cX7_judge 65 = .ok (.iadd, 1) := by decide +kernel
theorem dX7_judge_66 : decode cX7_judge 66 = .ok (.laload, 1) := by decide +kernel
theorem dX7_judge_67 : decode cX7_judge 67 = .ok (.aload_n 0, 1) := by decide +kernel
theorem dX7_judge_68 : decode cX7_judge 68 = .ok (.aload_n 0, 1) := by decide +kernel
theorem dX7_judge_69 : decode cX7_judge 69 = .ok (.getfield 48, 3) := by decide +kernel
theorem dX7_judge_72 : decode cX7_judge 72 = .ok (.sipush 408, 3) := by decide +kernel
theorem dX7_judge_75 : decode cX7_judge 75 = .ok (.iload_n 3, 1) := by decide +kernel
theorem dX7_judge_76 : decode cX7_judge 76 = .ok (.iadd, 1) := by decide +kernel
theorem dX7_judge_77 : decode cX7_judge 77 = .ok (.iaload, 1) := by decide +kernel
theorem dX7_judge_78 : decode cX7_judge 78 = .ok (.invokevirtual 211, 3) := by decide +kernel
theorem dX7_judge_81 : decode cX7_judge 81 = .ok (.i2l, 1) := by decide +kernel
theorem dX7_judge_82 : decode cX7_judge 82 = .ok (.lcmp, 1) := by decide +kernel
theorem dX7_judge_83 : decode cX7_judge 83 = .ok (.ifCond .eq 5, 3) := by decide +kernel
theorem dX7_judge_86 : decode cX7_judge 86 = .ok (.iload_n 3, 1) := by decide +kernel
theorem dX7_judge_87 : decode cX7_judge 87 = .ok (.ireturn, 1) := by decide +kernel
theorem dX7_judge_88 : decode cX7_judge 88 = .ok (.iinc 3 1, 3) := by decide +kernel
theorem dX7_judge_91 : decode cX7_judge 91 = .ok (.goto (-68), 3) := by decide +kernel
theorem dX7_judge_94 : decode cX7_judge 94 = .ok (.bipush (-5), 2) := by decide +kernel
theorem dX7_judge_96 : decode cX7_judge 96 = .ok (.ireturn, 1) := by decide +kernel
theorem dX7_image_0 : decode cX7_image 0 = .ok (.aload_n 0, 1) := by decide +kernel
theorem dX7_image_1 : decode cX7_image 1 = .ok (.getfield 48, 3) := by decide +kernel
theorem dX7_image_4 : decode cX7_image 4 = .ok (.aload_n 0, 1) := by decide +kernel
theorem dX7_image_5 : decode cX7_image 5 = .ok (.getfield 51, 3) := by decide +kernel
theorem dX7_image_8 : decode cX7_image 8 = .ok (.invokestatic 204, 3) := by decide +kernel
theorem dX7_image_11 : decode cX7_image 11 = .ok (.aload_n 0, 1) := by decide +kernel
theorem dX7_image_12 : decode cX7_image 12 = .ok (.iconst 1, 1) := by decide +kernel
theorem dX7_image_13 : decode cX7_image 13 = .ok (.putfield 241, 3) := by decide +kernel
theorem dX7_image_16 : decode cX7_image 16 = .ok (.aload_n 0, 1) := by decide +kernel
theorem dX7_image_17 : decode cX7_image 17 = .ok (.iconst 1, 1) := by decide +kernel
theorem dX7_image_18 : decode cX7_image 18 = .ok (.invokevirtual 231, 3) := by decide +kernel
theorem dX7_image_21 : decode cX7_image 21 = .ok (.ireturn, 1) := by decide +kernel
theorem dX7_undo_0 : decode cX7_undo 0 = .ok (.aload_n 0, 1) := by decide +kernel
theorem dX7_undo_1 : decode cX7_undo 1 = .ok (.getfield 241, 3) := by decide +kernel
theorem dX7_undo_4 : decode cX7_undo 4 = .ok (.ifCond .ne 6, 3) := by decide +kernel
theorem dX7_undo_7 : decode cX7_undo 7 = .ok (.bipush (-3), 2) := by decide +kernel
theorem dX7_undo_9 : decode cX7_undo 9 = .ok (.ireturn, 1) := by decide +kernel
theorem dX7_undo_10 : decode cX7_undo 10 = .ok (.aload_n 0, 1) := by decide +kernel
theorem dX7_undo_11 : decode cX7_undo 11 = .ok (.getfield 51, 3) := by decide +kernel
theorem dX7_undo_14 : decode cX7_undo 14 = .ok (.aload_n 0, 1) := by decide +kernel
theorem dX7_undo_15 : decode cX7_undo 15 = .ok (.getfield 48, 3) := by decide +kernel
theorem dX7_undo_18 : decode cX7_undo 18 = .ok (.invokestatic 204, 3) := by decide +kernel
theorem dX7_undo_21 : decode cX7_undo 21 = .ok (.iconst 0, 1) := by decide +kernel
theorem dX7_undo_22 : decode cX7_undo 22 = .ok (.istore_n 1, 1) := by decide +kernel
theorem dX7_undo_23 : decode cX7_undo 23 = .ok (.iload_n 1, 1) := by decide +kernel
theorem dX7_undo_24 : decode cX7_undo 24 = .ok (.bipush 24, 2) := by decide +kernel
theorem dX7_undo_26 : decode cX7_undo 26 = .ok (.if_icmp .ge 16, 3) := by decide +kernel
theorem dX7_undo_29 : decode cX7_undo 29 = .ok (.aload_n 0, 1) := by decide +kernel
theorem dX7_undo_30 : decode cX7_undo 30 = .ok (.getfield 60, 3) := by decide +kernel
theorem dX7_undo_33 : decode cX7_undo 33 = .ok (.iload_n 1, 1) := by decide +kernel
theorem dX7_undo_34 : decode cX7_undo 34 = .ok (.iconst 0, 1) := by decide +kernel
theorem dX7_undo_35 : decode cX7_undo 35 = .ok (.bastore, 1) := by decide +kernel
theorem dX7_undo_36 : decode cX7_undo 36 = .ok (.iinc 1 1, 3) := by decide +kernel
theorem dX7_undo_39 : decode cX7_undo 39 = .ok (.goto (-16), 3) := by decide +kernel
theorem dX7_undo_42 : decode cX7_undo 42 = .ok (.aload_n 0, 1) := by decide +kernel
theorem dX7_undo_43 : decode cX7_undo 43 = .ok (.iconst 0, 1) := by decide +kernel
theorem dX7_undo_44 : decode cX7_undo 44 = .ok (.putfield 144, 3) := by decide +kernel
theorem dX7_undo_47 : decode cX7_undo 47 = .ok (.aload_n 0, 1) := by decide +kernel
theorem dX7_undo_48 : decode cX7_undo 48 = .ok (.bipush (-5), 2) := by decide +kernel
theorem dX7_undo_50 : decode cX7_undo 50 = .ok (.putfield 70, 3) := by decide +kernel
theorem dX7_undo_53 : decode cX7_undo 53 = .ok (.aload_n 0, 1) := by decide +kernel
theorem dX7_undo_54 : decode cX7_undo 54 = .ok (.iconst 1, 1) := by decide +kernel
theorem dX7_undo_55 : decode cX7_undo 55 = .ok (.invokevirtual 231, 3) := by decide +kernel
theorem dX7_undo_58 : decode cX7_undo 58 = .ok (.ireturn, 1) := by decide +kernel
end
section
theorem dJ9_max_7cf53_0 : decode cJ9_max_7cf53 0 = .ok (.iload_n 0, 1) := by decide +kernel
theorem dJ9_max_7cf53_1 : decode cJ9_max_7cf53 1 = .ok (.iload_n 1, 1) := by decide +kernel
theorem dJ9_max_7cf53_2 : decode cJ9_max_7cf53 2 = .ok (.if_icmp .lt 7, 3) := by decide +kernel
theorem dJ9_max_7cf53_5 : decode cJ9_max_7cf53 5 = .ok (.iload_n 0, 1) := by decide +kernel
theorem dJ9_max_7cf53_6 : decode cJ9_max_7cf53 6 = .ok (.goto 4, 3) := by decide +kernel
theorem dJ9_max_7cf53_9 : decode cJ9_max_7cf53 9 = .ok (.iload_n 1, 1) := by decide +kernel
theorem dJ9_max_7cf53_10 : decode cJ9_max_7cf53 10 = .ok (.ireturn, 1) := by decide +kernel
theorem dJ9_min_7cf53_0 : decode cJ9_min_7cf53 0 = .ok (.iload_n 0, 1) := by decide +kernel
theorem dJ9_min_7cf53_1 : decode cJ9_min_7cf53 1 = .ok (.iload_n 1, 1) := by decide +kernel
theorem dJ9_min_7cf53_2 : decode cJ9_min_7cf53 2 = .ok (.if_icmp .gt 7, 3) := by decide +kernel
theorem dJ9_min_7cf53_5 : decode cJ9_min_7cf53 5 = .ok (.iload_n 0, 1) := by decide +kernel
theorem dJ9_min_7cf53_6 : decode cJ9_min_7cf53 6 = .ok (.goto 4, 3) := by decide +kernel
theorem dJ9_min_7cf53_9 : decode cJ9_min_7cf53 9 = .ok (.iload_n 1, 1) := by decide +kernel
theorem dJ9_min_7cf53_10 : decode cJ9_min_7cf53 10 = .ok (.ireturn, 1) := by decide +kernel
theorem dJ7_fill_d0a16_0 : decode cJ7_fill_d0a16 0 = .ok (.iconst 0, 1) := by decide +kernel
theorem dJ7_fill_d0a16_1 : decode cJ7_fill_d0a16 1 = .ok (.istore_n 3, 1) := by decide +kernel
theorem dJ7_fill_d0a16_2 : decode cJ7_fill_d0a16 2 = .ok (.aload_n 0, 1) := by decide +kernel
theorem dJ7_fill_d0a16_3 : decode cJ7_fill_d0a16 3 = .ok (.arraylength, 1) := by decide +kernel
theorem dJ7_fill_d0a16_4 : decode cJ7_fill_d0a16 4 = .ok (.istore 4, 2) := by decide +kernel
theorem dJ7_fill_d0a16_6 : decode cJ7_fill_d0a16 6 = .ok (.iload_n 3, 1) := by decide +kernel
theorem dJ7_fill_d0a16_7 : decode cJ7_fill_d0a16 7 = .ok (.iload 4, 2) := by decide +kernel
theorem dJ7_fill_d0a16_9 : decode cJ7_fill_d0a16 9 = .ok (.if_icmp .ge 13, 3) := by decide +kernel
theorem dJ7_fill_d0a16_12 : decode cJ7_fill_d0a16 12 = .ok (.aload_n 0, 1) := by decide +kernel
theorem dJ7_fill_d0a16_13 : decode cJ7_fill_d0a16 13 = .ok (.iload_n 3, 1) := by decide +kernel
theorem dJ7_fill_d0a16_14 : decode cJ7_fill_d0a16 14 = .ok (.lload_n 1, 1) := by decide +kernel
theorem dJ7_fill_d0a16_15 : decode cJ7_fill_d0a16 15 = .ok (.lastore, 1) := by decide +kernel
theorem dJ7_fill_d0a16_16 : decode cJ7_fill_d0a16 16 = .ok (.iinc 3 1, 3) := by decide +kernel
theorem dJ7_fill_d0a16_19 : decode cJ7_fill_d0a16 19 = .ok (.goto (-13), 3) := by decide +kernel
theorem dJ7_fill_d0a16_22 : decode cJ7_fill_d0a16 22 = .ok (.return_, 1) := by decide +kernel
theorem dJ7_fill_53178_0 : decode cJ7_fill_53178 0 = .ok (.iconst 0, 1) := by decide +kernel
theorem dJ7_fill_53178_1 : decode cJ7_fill_53178 1 = .ok (.istore_n 2, 1) := by decide +kernel
theorem dJ7_fill_53178_2 : decode cJ7_fill_53178 2 = .ok (.aload_n 0, 1) := by decide +kernel
theorem dJ7_fill_53178_3 : decode cJ7_fill_53178 3 = .ok (.arraylength, 1) := by decide +kernel
theorem dJ7_fill_53178_4 : decode cJ7_fill_53178 4 = .ok (.istore_n 3, 1) := by decide +kernel
theorem dJ7_fill_53178_5 : decode cJ7_fill_53178 5 = .ok (.iload_n 2, 1) := by decide +kernel
theorem dJ7_fill_53178_6 : decode cJ7_fill_53178 6 = .ok (.iload_n 3, 1) := by decide +kernel
theorem dJ7_fill_53178_7 : decode cJ7_fill_53178 7 = .ok (.if_icmp .ge 13, 3) := by decide +kernel
theorem dJ7_fill_53178_10 : decode cJ7_fill_53178 10 = .ok (.aload_n 0, 1) := by decide +kernel
theorem dJ7_fill_53178_11 : decode cJ7_fill_53178 11 = .ok (.iload_n 2, 1) := by decide +kernel
theorem dJ7_fill_53178_12 : decode cJ7_fill_53178 12 = .ok (.iload_n 1, 1) := by decide +kernel
theorem dJ7_fill_53178_13 : decode cJ7_fill_53178 13 = .ok (.iastore, 1) := by decide +kernel
theorem dJ7_fill_53178_14 : decode cJ7_fill_53178 14 = .ok (.iinc 2 1, 3) := by decide +kernel
theorem dJ7_fill_53178_17 : decode cJ7_fill_53178 17 = .ok (.goto (-12), 3) := by decide +kernel
theorem dJ7_fill_53178_20 : decode cJ7_fill_53178 20 = .ok (.return_, 1) := by decide +kernel
theorem dL_law_0 : decode cL_law 0 = .ok (.new 7, 3) := by decide +kernel
theorem dL_law_3 : decode cL_law 3 = .ok (.dup, 1) := by decide +kernel
theorem dL_law_4 : decode cL_law 4 = .ok (.invokespecial 9, 3) := by decide +kernel
theorem dL_law_7 : decode cL_law 7 = .ok (.astore_n 1, 1) := by decide +kernel
theorem dL_law_8 : decode cL_law 8 = .ok (.new 10, 3) := by decide +kernel
theorem dL_law_11 : decode cL_law 11 = .ok (.dup, 1) := by decide +kernel
theorem dL_law_12 : decode cL_law 12 = .ok (.invokespecial 12, 3) := by decide +kernel
theorem dL_law_15 : decode cL_law 15 = .ok (.astore_n 2, 1) := by decide +kernel
theorem dL_law_16 : decode cL_law 16 = .ok (.iconst 0, 1) := by decide +kernel
theorem dL_law_17 : decode cL_law 17 = .ok (.istore_n 3, 1) := by decide +kernel
theorem dL_law_18 : decode cL_law 18 = .ok (.iload_n 3, 1) := by decide +kernel
theorem dL_law_19 : decode cL_law 19 = .ok (.aload_n 0, 1) := by decide +kernel
theorem dL_law_20 : decode cL_law 20 = .ok (.arraylength, 1) := by decide +kernel
theorem dL_law_21 : decode cL_law 21 = .ok (.bipush 6, 2) := by decide +kernel
theorem dL_law_23 : decode cL_law 23 = .ok (.isub, 1) := by decide +kernel
theorem dL_law_24 : decode cL_law 24 = .ok (.if_icmp .gt 1129, 3) := by decide +kernel
theorem dL_law_27 : decode cL_law 27 = .ok (.aload_n 0, 1) := by decide +kernel
theorem dL_law_28 : decode cL_law 28 = .ok (.iload_n 3, 1) := by decide +kernel
theorem dL_law_29 : decode cL_law 29 = .ok (.iaload, 1) := by decide +kernel
theorem dL_law_30 : decode cL_law 30 = .ok (.bipush 63, 2) := by decide +kernel
theorem dL_law_32 : decode cL_law 32 = .ok (.iand, 1) := by decide +kernel
theorem dL_law_33 : decode cL_law 33 = .ok (.tableswitch 1114 0 33 #[151, 184, 207, 230, 243, 266, 289, 322, 355, 378, 401, 434, 477, 500, 543, 566, 589, 612, 645, 678, 701, 724, 747, 760, 773, 796, 819, 852, 925, 959, 1022, 1055, 1088, 1101], 151) := by decide +kernel
theorem dL_law_184 : decode cL_law 184 = .ok (.aload_n 1, 1) := by decide +kernel
theorem dL_law_185 : decode cL_law 185 = .ok (.aload_n 0, 1) := by decide +kernel
theorem dL_law_186 : decode cL_law 186 = .ok (.iload_n 3, 1) := by decide +kernel
theorem dL_law_187 : decode cL_law 187 = .ok (.iconst 1, 1) := by decide +kernel
theorem dL_law_188 : decode cL_law 188 = .ok (.iadd, 1) := by decide +kernel
theorem dL_law_189 : decode cL_law 189 = .ok (.iaload, 1) := by decide +kernel
theorem dL_law_190 : decode cL_law 190 = .ok (.aload_n 0, 1) := by decide +kernel
theorem dL_law_191 : decode cL_law 191 = .ok (.iload_n 3, 1) := by decide +kernel
theorem dL_law_192 : decode cL_law 192 = .ok (.iconst 2, 1) := by decide +kernel
theorem dL_law_193 : decode cL_law 193 = .ok (.iadd, 1) := by decide +kernel
theorem dL_law_194 : decode cL_law 194 = .ok (.iaload, 1) := by decide +kernel
theorem dL_law_195 : decode cL_law 195 = .ok (.invokevirtual 13, 3) := by decide +kernel
theorem dL_law_198 : decode cL_law 198 = .ok (.aload_n 2, 1) := by decide +kernel
theorem dL_law_199 : decode cL_law 199 = .ok (.aload_n 0, 1) := by decide +kernel
theorem dL_law_200 : decode cL_law 200 = .ok (.iload_n 3, 1) := by decide +kernel
theorem dL_law_201 : decode cL_law 201 = .ok (.iconst 1, 1) := by decide +kernel
theorem dL_law_202 : decode cL_law 202 = .ok (.iadd, 1) := by decide +kernel
theorem dL_law_203 : decode cL_law 203 = .ok (.iaload, 1) := by decide +kernel
theorem dL_law_204 : decode cL_law 204 = .ok (.aload_n 0, 1) := by decide +kernel
theorem dL_law_205 : decode cL_law 205 = .ok (.iload_n 3, 1) := by decide +kernel
theorem dL_law_206 : decode cL_law 206 = .ok (.iconst 2, 1) := by decide +kernel
theorem dL_law_207 : decode cL_law 207 = .ok (.iadd, 1) := by decide +kernel
theorem dL_law_208 : decode cL_law 208 = .ok (.iaload, 1) := by decide +kernel
theorem dL_law_209 : decode cL_law 209 = .ok (.invokevirtual 17, 3) := by decide +kernel
theorem dL_law_212 : decode cL_law 212 = .ok (.if_icmp .eq 935, 3) := by decide +kernel
theorem dL_law_215 : decode cL_law 215 = .ok (.iconst 0, 1) := by decide +kernel
theorem dL_law_216 : decode cL_law 216 = .ok (.ireturn, 1) := by decide +kernel
theorem dL_law_217 : decode cL_law 217 = .ok (.aload_n 1, 1) := by decide +kernel
theorem dL_law_218 : decode cL_law 218 = .ok (.aload_n 0, 1) := by decide +kernel
theorem dL_law_219 : decode cL_law 219 = .ok (.iload_n 3, 1) := by decide +kernel
theorem dL_law_220 : decode cL_law 220 = .ok (.iconst 1, 1) := by decide +kernel
theorem dL_law_221 : decode cL_law 221 = .ok (.iadd, 1) := by decide +kernel
theorem dL_law_222 : decode cL_law 222 = .ok (.iaload, 1) := by decide +kernel
theorem dL_law_223 : decode cL_law 223 = .ok (.invokevirtual 18, 3) := by decide +kernel
theorem dL_law_226 : decode cL_law 226 = .ok (.aload_n 2, 1) := by decide +kernel
theorem dL_law_227 : decode cL_law 227 = .ok (.aload_n 0, 1) := by decide +kernel
theorem dL_law_228 : decode cL_law 228 = .ok (.iload_n 3, 1) := by decide +kernel
theorem dL_law_229 : decode cL_law 229 = .ok (.iconst 1, 1) := by decide +kernel
theorem dL_law_230 : decode cL_law 230 = .ok (.iadd, 1) := by decide +kernel
theorem dL_law_231 : decode cL_law 231 = .ok (.iaload, 1) := by decide +kernel
theorem dL_law_232 : decode cL_law 232 = .ok (.invokevirtual 22, 3) := by decide +kernel
theorem dL_law_235 : decode cL_law 235 = .ok (.if_icmp .eq 912, 3) := by decide +kernel
theorem dL_law_238 : decode cL_law 238 = .ok (.iconst 0, 1) := by decide +kernel
theorem dL_law_239 : decode cL_law 239 = .ok (.ireturn, 1) := by decide +kernel
theorem dL_law_240 : decode cL_law 240 = .ok (.aload_n 1, 1) := by decide +kernel
theorem dL_law_241 : decode cL_law 241 = .ok (.aload_n 0, 1) := by decide +kernel
theorem dL_law_242 : decode cL_law 242 = .ok (.iload_n 3, 1) := by decide +kernel
theorem dL_law_243 : decode cL_law 243 = .ok (.iconst 1, 1) := by decide +kernel
theorem dL_law_244 : decode cL_law 244 = .ok (.iadd, 1) := by decide +kernel
theorem dL_law_245 : decode cL_law 245 = .ok (.iaload, 1) := by decide +kernel
theorem dL_law_246 : decode cL_law 246 = .ok (.invokevirtual 23, 3) := by decide +kernel
theorem dL_law_249 : decode cL_law 249 = .ok (.aload_n 2, 1) := by decide +kernel
theorem dL_law_250 : decode cL_law 250 = .ok (.aload_n 0, 1) := by decide +kernel
theorem dL_law_251 : decode cL_law 251 = .ok (.iload_n 3, 1) := by decide +kernel
theorem dL_law_252 : decode cL_law 252 = .ok (.iconst 1, 1) := by decide +kernel
theorem dL_law_253 : decode cL_law 253 = .ok (.iadd, 1) := by decide +kernel
theorem dL_law_254 : decode cL_law 254 = .ok (.iaload, 1) := by decide +kernel
theorem dL_law_255 : decode cL_law 255 = .ok (.invokevirtual 26, 3) := by decide +kernel
theorem dL_law_258 : decode cL_law 258 = .ok (.if_icmp .eq 889, 3) := by decide +kernel
theorem dL_law_261 : decode cL_law 261 = .ok (.iconst 0, 1) := by decide +kernel
theorem dL_law_262 : decode cL_law 262 = .ok (.ireturn, 1) := by decide +kernel
theorem dL_law_263 : decode cL_law 263 = .ok (.aload_n 1, 1) := by decide +kernel
theorem dL_law_264 : decode cL_law 264 = .ok (.invokevirtual 27, 3) := by decide +kernel
theorem dL_law_267 : decode cL_law 267 = .ok (.aload_n 2, 1) := by decide +kernel
theorem dL_law_268 : decode cL_law 268 = .ok (.invokevirtual 31, 3) := by decide +kernel
theorem dL_law_271 : decode cL_law 271 = .ok (.if_icmp .eq 876, 3) := by decide +kernel
theorem dL_law_274 : decode cL_law 274 = .ok (.iconst 0, 1) := by decide +kernel
theorem dL_law_275 : decode cL_law 275 = .ok (.ireturn, 1) := by decide +kernel
theorem dL_law_276 : decode cL_law 276 = .ok (.aload_n 1, 1) := by decide +kernel
theorem dL_law_277 : decode cL_law 277 = .ok (.aload_n 0, 1) := by decide +kernel
theorem dL_law_278 : decode cL_law 278 = .ok (.iload_n 3, 1) := by decide +kernel
theorem dL_law_279 : decode cL_law 279 = .ok (.iconst 1, 1) := by decide +kernel
theorem dL_law_280 : decode cL_law 280 = .ok (.iadd, 1) := by decide +kernel
theorem dL_law_281 : decode cL_law 281 = .ok (.iaload, 1) := by decide +kernel
theorem dL_law_282 : decode cL_law 282 = .ok (.invokevirtual 32, 3) := by decide +kernel
theorem dL_law_285 : decode cL_law 285 = .ok (.aload_n 2, 1) := by decide +kernel
theorem dL_law_286 : decode cL_law 286 = .ok (.aload_n 0, 1) := by decide +kernel
theorem dL_law_287 : decode cL_law 287 = .ok (.iload_n 3, 1) := by decide +kernel
theorem dL_law_288 : decode cL_law 288 = .ok (.iconst 1, 1) := by decide +kernel
theorem dL_law_289 : decode cL_law 289 = .ok (.iadd, 1) := by decide +kernel
theorem dL_law_290 : decode cL_law 290 = .ok (.iaload, 1) := by decide +kernel
theorem dL_law_291 : decode cL_law 291 = .ok (.invokevirtual 35, 3) := by decide +kernel
theorem dL_law_294 : decode cL_law 294 = .ok (.if_icmp .eq 853, 3) := by decide +kernel
theorem dL_law_297 : decode cL_law 297 = .ok (.iconst 0, 1) := by decide +kernel
theorem dL_law_298 : decode cL_law 298 = .ok (.ireturn, 1) := by decide +kernel
theorem dL_law_299 : decode cL_law 299 = .ok (.aload_n 1, 1) := by decide +kernel
theorem dL_law_300 : decode cL_law 300 = .ok (.aload_n 0, 1) := by decide +kernel
theorem dL_law_301 : decode cL_law 301 = .ok (.iload_n 3, 1) := by decide +kernel
theorem dL_law_302 : decode cL_law 302 = .ok (.iconst 1, 1) := by decide +kernel
theorem dL_law_303 : decode cL_law 303 = .ok (.iadd, 1) := by decide +kernel
theorem dL_law_304 : decode cL_law 304 = .ok (.iaload, 1) := by decide +kernel
theorem dL_law_305 : decode cL_law 305 = .ok (.invokevirtual 36, 3) := by decide +kernel
theorem dL_law_308 : decode cL_law 308 = .ok (.aload_n 2, 1) := by decide +kernel
theorem dL_law_309 : decode cL_law 309 = .ok (.aload_n 0, 1) := by decide +kernel
theorem dL_law_310 : decode cL_law 310 = .ok (.iload_n 3, 1) := by decide +kernel
theorem dL_law_311 : decode cL_law 311 = .ok (.iconst 1, 1) := by decide +kernel
theorem dL_law_312 : decode cL_law 312 = .ok (.iadd, 1) := by decide +kernel
theorem dL_law_313 : decode cL_law 313 = .ok (.iaload, 1) := by decide +kernel
theorem dL_law_314 : decode cL_law 314 = .ok (.invokevirtual 39, 3) := by decide +kernel
theorem dL_law_317 : decode cL_law 317 = .ok (.if_icmp .eq 830, 3) := by decide +kernel
theorem dL_law_320 : decode cL_law 320 = .ok (.iconst 0, 1) := by decide +kernel
theorem dL_law_321 : decode cL_law 321 = .ok (.ireturn, 1) := by decide +kernel
theorem dL_law_322 : decode cL_law 322 = .ok (.aload_n 1, 1) := by decide +kernel
theorem dL_law_323 : decode cL_law 323 = .ok (.aload_n 0, 1) := by decide +kernel
theorem dL_law_324 : decode cL_law 324 = .ok (.iload_n 3, 1) := by decide +kernel
theorem dL_law_325 : decode cL_law 325 = .ok (.iconst 1, 1) := by decide +kernel
theorem dL_law_326 : decode cL_law 326 = .ok (.iadd, 1) := by decide +kernel
theorem dL_law_327 : decode cL_law 327 = .ok (.iaload, 1) := by decide +kernel
theorem dL_law_328 : decode cL_law 328 = .ok (.aload_n 0, 1) := by decide +kernel
theorem dL_law_329 : decode cL_law 329 = .ok (.iload_n 3, 1) := by decide +kernel
theorem dL_law_330 : decode cL_law 330 = .ok (.iconst 2, 1) := by decide +kernel
theorem dL_law_331 : decode cL_law 331 = .ok (.iadd, 1) := by decide +kernel
theorem dL_law_332 : decode cL_law 332 = .ok (.iaload, 1) := by decide +kernel
theorem dL_law_333 : decode cL_law 333 = .ok (.invokevirtual 40, 3) := by decide +kernel
theorem dL_law_336 : decode cL_law 336 = .ok (.aload_n 2, 1) := by decide +kernel
theorem dL_law_337 : decode cL_law 337 = .ok (.aload_n 0, 1) := by decide +kernel
theorem dL_law_338 : decode cL_law 338 = .ok (.iload_n 3, 1) := by decide +kernel
theorem dL_law_339 : decode cL_law 339 = .ok (.iconst 1, 1) := by decide +kernel
theorem dL_law_340 : decode cL_law 340 = .ok (.iadd, 1) := by decide +kernel
theorem dL_law_341 : decode cL_law 341 = .ok (.iaload, 1) := by decide +kernel
theorem dL_law_342 : decode cL_law 342 = .ok (.aload_n 0, 1) := by decide +kernel
theorem dL_law_343 : decode cL_law 343 = .ok (.iload_n 3, 1) := by decide +kernel
theorem dL_law_344 : decode cL_law 344 = .ok (.iconst 2, 1) := by decide +kernel
theorem dL_law_345 : decode cL_law 345 = .ok (.iadd, 1) := by decide +kernel
theorem dL_law_346 : decode cL_law 346 = .ok (.iaload, 1) := by decide +kernel
theorem dL_law_347 : decode cL_law 347 = .ok (.invokevirtual 43, 3) := by decide +kernel
theorem dL_law_350 : decode cL_law 350 = .ok (.if_icmp .eq 797, 3) := by decide +kernel
theorem dL_law_353 : decode cL_law 353 = .ok (.iconst 0, 1) := by decide +kernel
theorem dL_law_354 : decode cL_law 354 = .ok (.ireturn, 1) := by decide +kernel
theorem dL_law_355 : decode cL_law 355 = .ok (.aload_n 1, 1) := by decide +kernel
theorem dL_law_356 : decode cL_law 356 = .ok (.aload_n 0, 1) := by decide +kernel
theorem dL_law_357 : decode cL_law 357 = .ok (.iload_n 3, 1) := by decide +kernel
theorem dL_law_358 : decode cL_law 358 = .ok (.iconst 1, 1) := by decide +kernel
theorem dL_law_359 : decode cL_law 359 = .ok (.iadd, 1) := by decide +kernel
theorem dL_law_360 : decode cL_law 360 = .ok (.iaload, 1) := by decide +kernel
theorem dL_law_361 : decode cL_law 361 = .ok (.aload_n 0, 1) := by decide +kernel
theorem dL_law_362 : decode cL_law 362 = .ok (.iload_n 3, 1) := by decide +kernel
theorem dL_law_363 : decode cL_law 363 = .ok (.iconst 2, 1) := by decide +kernel
theorem dL_law_364 : decode cL_law 364 = .ok (.iadd, 1) := by decide +kernel
theorem dL_law_365 : decode cL_law 365 = .ok (.iaload, 1) := by decide +kernel
theorem dL_law_366 : decode cL_law 366 = .ok (.invokevirtual 44, 3) := by decide +kernel
theorem dL_law_369 : decode cL_law 369 = .ok (.aload_n 2, 1) := by decide +kernel
theorem dL_law_370 : decode cL_law 370 = .ok (.aload_n 0, 1) := by decide +kernel
theorem dL_law_371 : decode cL_law 371 = .ok (.iload_n 3, 1) := by decide +kernel
theorem dL_law_372 : decode cL_law 372 = .ok (.iconst 1, 1) := by decide +kernel
theorem dL_law_373 : decode cL_law 373 = .ok (.iadd, 1) := by decide +kernel
theorem dL_law_374 : decode cL_law 374 = .ok (.iaload, 1) := by decide +kernel
theorem dL_law_375 : decode cL_law 375 = .ok (.aload_n 0, 1) := by decide +kernel
theorem dL_law_376 : decode cL_law 376 = .ok (.iload_n 3, 1) := by decide +kernel
theorem dL_law_377 : decode cL_law 377 = .ok (.iconst 2, 1) := by decide +kernel
theorem dL_law_378 : decode cL_law 378 = .ok (.iadd, 1) := by decide +kernel
theorem dL_law_379 : decode cL_law 379 = .ok (.iaload, 1) := by decide +kernel
theorem dL_law_380 : decode cL_law 380 = .ok (.invokevirtual 47, 3) := by decide +kernel
theorem dL_law_383 : decode cL_law 383 = .ok (.if_icmp .eq 764, 3) := by decide +kernel
theorem dL_law_386 : decode cL_law 386 = .ok (.iconst 0, 1) := by decide +kernel
theorem dL_law_387 : decode cL_law 387 = .ok (.ireturn, 1) := by decide +kernel
theorem dL_law_388 : decode cL_law 388 = .ok (.aload_n 1, 1) := by decide +kernel
theorem dL_law_389 : decode cL_law 389 = .ok (.aload_n 0, 1) := by decide +kernel
theorem dL_law_390 : decode cL_law 390 = .ok (.iload_n 3, 1) := by decide +kernel
theorem dL_law_391 : decode cL_law 391 = .ok (.iconst 1, 1) := by decide +kernel
theorem dL_law_392 : decode cL_law 392 = .ok (.iadd, 1) := by decide +kernel
theorem dL_law_393 : decode cL_law 393 = .ok (.iaload, 1) := by decide +kernel
theorem dL_law_394 : decode cL_law 394 = .ok (.invokevirtual 48, 3) := by decide +kernel
theorem dL_law_397 : decode cL_law 397 = .ok (.aload_n 2, 1) := by decide +kernel
theorem dL_law_398 : decode cL_law 398 = .ok (.aload_n 0, 1) := by decide +kernel
theorem dL_law_399 : decode cL_law 399 = .ok (.iload_n 3, 1) := by decide +kernel
theorem dL_law_400 : decode cL_law 400 = .ok (.iconst 1, 1) := by decide +kernel
theorem dL_law_401 : decode cL_law 401 = .ok (.iadd, 1) := by decide +kernel
theorem dL_law_402 : decode cL_law 402 = .ok (.iaload, 1) := by decide +kernel
theorem dL_law_403 : decode cL_law 403 = .ok (.invokevirtual 51, 3) := by decide +kernel
theorem dL_law_406 : decode cL_law 406 = .ok (.if_icmp .eq 741, 3) := by decide +kernel
theorem dL_law_409 : decode cL_law 409 = .ok (.iconst 0, 1) := by decide +kernel
theorem dL_law_410 : decode cL_law 410 = .ok (.ireturn, 1) := by decide +kernel
theorem dL_law_411 : decode cL_law 411 = .ok (.aload_n 1, 1) := by decide +kernel
theorem dL_law_412 : decode cL_law 412 = .ok (.aload_n 0, 1) := by decide +kernel
theorem dL_law_413 : decode cL_law 413 = .ok (.iload_n 3, 1) := by decide +kernel
theorem dL_law_414 : decode cL_law 414 = .ok (.iconst 1, 1) := by decide +kernel
theorem dL_law_415 : decode cL_law 415 = .ok (.iadd, 1) := by decide +kernel
theorem dL_law_416 : decode cL_law 416 = .ok (.iaload, 1) := by decide +kernel
theorem dL_law_417 : decode cL_law 417 = .ok (.invokevirtual 52, 3) := by decide +kernel
theorem dL_law_420 : decode cL_law 420 = .ok (.aload_n 2, 1) := by decide +kernel
theorem dL_law_421 : decode cL_law 421 = .ok (.aload_n 0, 1) := by decide +kernel
theorem dL_law_422 : decode cL_law 422 = .ok (.iload_n 3, 1) := by decide +kernel
theorem dL_law_423 : decode cL_law 423 = .ok (.iconst 1, 1) := by decide +kernel
theorem dL_law_424 : decode cL_law 424 = .ok (.iadd, 1) := by decide +kernel
theorem dL_law_425 : decode cL_law 425 = .ok (.iaload, 1) := by decide +kernel
theorem dL_law_426 : decode cL_law 426 = .ok (.invokevirtual 55, 3) := by decide +kernel
theorem dL_law_429 : decode cL_law 429 = .ok (.if_icmp .eq 718, 3) := by decide +kernel
theorem dL_law_432 : decode cL_law 432 = .ok (.iconst 0, 1) := by decide +kernel
theorem dL_law_433 : decode cL_law 433 = .ok (.ireturn, 1) := by decide +kernel
theorem dL_law_434 : decode cL_law 434 = .ok (.aload_n 1, 1) := by decide +kernel
theorem dL_law_435 : decode cL_law 435 = .ok (.aload_n 0, 1) := by decide +kernel
theorem dL_law_436 : decode cL_law 436 = .ok (.iload_n 3, 1) := by decide +kernel
theorem dL_law_437 : decode cL_law 437 = .ok (.iconst 1, 1) := by decide +kernel
theorem dL_law_438 : decode cL_law 438 = .ok (.iadd, 1) := by decide +kernel
theorem dL_law_439 : decode cL_law 439 = .ok (.iaload, 1) := by decide +kernel
theorem dL_law_440 : decode cL_law 440 = .ok (.aload_n 0, 1) := by decide +kernel
theorem dL_law_441 : decode cL_law 441 = .ok (.iload_n 3, 1) := by decide +kernel
theorem dL_law_442 : decode cL_law 442 = .ok (.iconst 2, 1) := by decide +kernel
theorem dL_law_443 : decode cL_law 443 = .ok (.iadd, 1) := by decide +kernel
theorem dL_law_444 : decode cL_law 444 = .ok (.iaload, 1) := by decide +kernel
theorem dL_law_445 : decode cL_law 445 = .ok (.invokevirtual 56, 3) := by decide +kernel
theorem dL_law_448 : decode cL_law 448 = .ok (.aload_n 2, 1) := by decide +kernel
theorem dL_law_449 : decode cL_law 449 = .ok (.aload_n 0, 1) := by decide +kernel
theorem dL_law_450 : decode cL_law 450 = .ok (.iload_n 3, 1) := by decide +kernel
theorem dL_law_451 : decode cL_law 451 = .ok (.iconst 1, 1) := by decide +kernel
theorem dL_law_452 : decode cL_law 452 = .ok (.iadd, 1) := by decide +kernel
theorem dL_law_453 : decode cL_law 453 = .ok (.iaload, 1) := by decide +kernel
theorem dL_law_454 : decode cL_law 454 = .ok (.aload_n 0, 1) := by decide +kernel
theorem dL_law_455 : decode cL_law 455 = .ok (.iload_n 3, 1) := by decide +kernel
theorem dL_law_456 : decode cL_law 456 = .ok (.iconst 2, 1) := by decide +kernel
theorem dL_law_457 : decode cL_law 457 = .ok (.iadd, 1) := by decide +kernel
theorem dL_law_458 : decode cL_law 458 = .ok (.iaload, 1) := by decide +kernel
theorem dL_law_459 : decode cL_law 459 = .ok (.invokevirtual 59, 3) := by decide +kernel
theorem dL_law_462 : decode cL_law 462 = .ok (.if_icmp .eq 685, 3) := by decide +kernel
theorem dL_law_465 : decode cL_law 465 = .ok (.iconst 0, 1) := by decide +kernel
theorem dL_law_466 : decode cL_law 466 = .ok (.ireturn, 1) := by decide +kernel
theorem dL_law_467 : decode cL_law 467 = .ok (.aload_n 1, 1) := by decide +kernel
theorem dL_law_468 : decode cL_law 468 = .ok (.aload_n 0, 1) := by decide +kernel
theorem dL_law_469 : decode cL_law 469 = .ok (.iload_n 3, 1) := by decide +kernel
theorem dL_law_470 : decode cL_law 470 = .ok (.iconst 1, 1) := by decide +kernel
theorem dL_law_471 : decode cL_law 471 = .ok (.iadd, 1) := by decide +kernel
theorem dL_law_472 : decode cL_law 472 = .ok (.iaload, 1) := by decide +kernel
theorem dL_law_473 : decode cL_law 473 = .ok (.aload_n 0, 1) := by decide +kernel
theorem dL_law_474 : decode cL_law 474 = .ok (.iload_n 3, 1) := by decide +kernel
theorem dL_law_475 : decode cL_law 475 = .ok (.iconst 2, 1) := by decide +kernel
theorem dL_law_476 : decode cL_law 476 = .ok (.iadd, 1) := by decide +kernel
theorem dL_law_477 : decode cL_law 477 = .ok (.iaload, 1) := by decide +kernel
theorem dL_law_478 : decode cL_law 478 = .ok (.aload_n 0, 1) := by decide +kernel
theorem dL_law_479 : decode cL_law 479 = .ok (.iload_n 3, 1) := by decide +kernel
theorem dL_law_480 : decode cL_law 480 = .ok (.iconst 3, 1) := by decide +kernel
theorem dL_law_481 : decode cL_law 481 = .ok (.iadd, 1) := by decide +kernel
theorem dL_law_482 : decode cL_law 482 = .ok (.iaload, 1) := by decide +kernel
theorem dL_law_483 : decode cL_law 483 = .ok (.invokevirtual 60, 3) := by decide +kernel
theorem dL_law_486 : decode cL_law 486 = .ok (.aload_n 2, 1) := by decide +kernel
theorem dL_law_487 : decode cL_law 487 = .ok (.aload_n 0, 1) := by decide +kernel
theorem dL_law_488 : decode cL_law 488 = .ok (.iload_n 3, 1) := by decide +kernel
theorem dL_law_489 : decode cL_law 489 = .ok (.iconst 1, 1) := by decide +kernel
theorem dL_law_490 : decode cL_law 490 = .ok (.iadd, 1) := by decide +kernel
theorem dL_law_491 : decode cL_law 491 = .ok (.iaload, 1) := by decide +kernel
theorem dL_law_492 : decode cL_law 492 = .ok (.aload_n 0, 1) := by decide +kernel
theorem dL_law_493 : decode cL_law 493 = .ok (.iload_n 3, 1) := by decide +kernel
theorem dL_law_494 : decode cL_law 494 = .ok (.iconst 2, 1) := by decide +kernel
theorem dL_law_495 : decode cL_law 495 = .ok (.iadd, 1) := by decide +kernel
theorem dL_law_496 : decode cL_law 496 = .ok (.iaload, 1) := by decide +kernel
theorem dL_law_497 : decode cL_law 497 = .ok (.aload_n 0, 1) := by decide +kernel
theorem dL_law_498 : decode cL_law 498 = .ok (.iload_n 3, 1) := by decide +kernel
theorem dL_law_499 : decode cL_law 499 = .ok (.iconst 3, 1) := by decide +kernel
theorem dL_law_500 : decode cL_law 500 = .ok (.iadd, 1) := by decide +kernel
theorem dL_law_501 : decode cL_law 501 = .ok (.iaload, 1) := by decide +kernel
theorem dL_law_502 : decode cL_law 502 = .ok (.invokevirtual 64, 3) := by decide +kernel
theorem dL_law_505 : decode cL_law 505 = .ok (.if_icmp .eq 642, 3) := by decide +kernel
theorem dL_law_508 : decode cL_law 508 = .ok (.iconst 0, 1) := by decide +kernel
theorem dL_law_509 : decode cL_law 509 = .ok (.ireturn, 1) := by decide +kernel
theorem dL_law_510 : decode cL_law 510 = .ok (.aload_n 1, 1) := by decide +kernel
theorem dL_law_511 : decode cL_law 511 = .ok (.aload_n 0, 1) := by decide +kernel
theorem dL_law_512 : decode cL_law 512 = .ok (.iload_n 3, 1) := by decide +kernel
theorem dL_law_513 : decode cL_law 513 = .ok (.iconst 1, 1) := by decide +kernel
theorem dL_law_514 : decode cL_law 514 = .ok (.iadd, 1) := by decide +kernel
theorem dL_law_515 : decode cL_law 515 = .ok (.iaload, 1) := by decide +kernel
theorem dL_law_516 : decode cL_law 516 = .ok (.invokevirtual 65, 3) := by decide +kernel
theorem dL_law_519 : decode cL_law 519 = .ok (.aload_n 2, 1) := by decide +kernel
theorem dL_law_520 : decode cL_law 520 = .ok (.aload_n 0, 1) := by decide +kernel
theorem dL_law_521 : decode cL_law 521 = .ok (.iload_n 3, 1) := by decide +kernel
theorem dL_law_522 : decode cL_law 522 = .ok (.iconst 1, 1) := by decide +kernel
theorem dL_law_523 : decode cL_law 523 = .ok (.iadd, 1) := by decide +kernel
theorem dL_law_524 : decode cL_law 524 = .ok (.iaload, 1) := by decide +kernel
theorem dL_law_525 : decode cL_law 525 = .ok (.invokevirtual 68, 3) := by decide +kernel
theorem dL_law_528 : decode cL_law 528 = .ok (.if_icmp .eq 619, 3) := by decide +kernel
theorem dL_law_531 : decode cL_law 531 = .ok (.iconst 0, 1) := by decide +kernel
theorem dL_law_532 : decode cL_law 532 = .ok (.ireturn, 1) := by decide +kernel
theorem dL_law_533 : decode cL_law 533 = .ok (.aload_n 1, 1) := by decide +kernel
theorem dL_law_534 : decode cL_law 534 = .ok (.aload_n 0, 1) := by decide +kernel
theorem dL_law_535 : decode cL_law 535 = .ok (.iload_n 3, 1) := by decide +kernel
theorem dL_law_536 : decode cL_law 536 = .ok (.iconst 1, 1) := by decide +kernel
theorem dL_law_537 : decode cL_law 537 = .ok (.iadd, 1) := by decide +kernel
theorem dL_law_538 : decode cL_law 538 = .ok (.iaload, 1) := by decide +kernel
theorem dL_law_539 : decode cL_law 539 = .ok (.aload_n 0, 1) := by decide +kernel
theorem dL_law_540 : decode cL_law 540 = .ok (.iload_n 3, 1) := by decide +kernel
theorem dL_law_541 : decode cL_law 541 = .ok (.iconst 2, 1) := by decide +kernel
theorem dL_law_542 : decode cL_law 542 = .ok (.iadd, 1) := by decide +kernel
theorem dL_law_543 : decode cL_law 543 = .ok (.iaload, 1) := by decide +kernel
theorem dL_law_544 : decode cL_law 544 = .ok (.aload_n 0, 1) := by decide +kernel
theorem dL_law_545 : decode cL_law 545 = .ok (.iload_n 3, 1) := by decide +kernel
theorem dL_law_546 : decode cL_law 546 = .ok (.iconst 3, 1) := by decide +kernel
theorem dL_law_547 : decode cL_law 547 = .ok (.iadd, 1) := by decide +kernel
theorem dL_law_548 : decode cL_law 548 = .ok (.iaload, 1) := by decide +kernel
theorem dL_law_549 : decode cL_law 549 = .ok (.invokevirtual 69, 3) := by decide +kernel
theorem dL_law_552 : decode cL_law 552 = .ok (.aload_n 2, 1) := by decide +kernel
theorem dL_law_553 : decode cL_law 553 = .ok (.aload_n 0, 1) := by decide +kernel
theorem dL_law_554 : decode cL_law 554 = .ok (.iload_n 3, 1) := by decide +kernel
theorem dL_law_555 : decode cL_law 555 = .ok (.iconst 1, 1) := by decide +kernel
theorem dL_law_556 : decode cL_law 556 = .ok (.iadd, 1) := by decide +kernel
theorem dL_law_557 : decode cL_law 557 = .ok (.iaload, 1) := by decide +kernel
theorem dL_law_558 : decode cL_law 558 = .ok (.aload_n 0, 1) := by decide +kernel
theorem dL_law_559 : decode cL_law 559 = .ok (.iload_n 3, 1) := by decide +kernel
theorem dL_law_560 : decode cL_law 560 = .ok (.iconst 2, 1) := by decide +kernel
theorem dL_law_561 : decode cL_law 561 = .ok (.iadd, 1) := by decide +kernel
theorem dL_law_562 : decode cL_law 562 = .ok (.iaload, 1) := by decide +kernel
theorem dL_law_563 : decode cL_law 563 = .ok (.aload_n 0, 1) := by decide +kernel
theorem dL_law_564 : decode cL_law 564 = .ok (.iload_n 3, 1) := by decide +kernel
theorem dL_law_565 : decode cL_law 565 = .ok (.iconst 3, 1) := by decide +kernel
theorem dL_law_566 : decode cL_law 566 = .ok (.iadd, 1) := by decide +kernel
theorem dL_law_567 : decode cL_law 567 = .ok (.iaload, 1) := by decide +kernel
theorem dL_law_568 : decode cL_law 568 = .ok (.invokevirtual 72, 3) := by decide +kernel
theorem dL_law_571 : decode cL_law 571 = .ok (.if_icmp .eq 576, 3) := by decide +kernel
theorem dL_law_574 : decode cL_law 574 = .ok (.iconst 0, 1) := by decide +kernel
theorem dL_law_575 : decode cL_law 575 = .ok (.ireturn, 1) := by decide +kernel
theorem dL_law_576 : decode cL_law 576 = .ok (.aload_n 1, 1) := by decide +kernel
theorem dL_law_577 : decode cL_law 577 = .ok (.aload_n 0, 1) := by decide +kernel
theorem dL_law_578 : decode cL_law 578 = .ok (.iload_n 3, 1) := by decide +kernel
theorem dL_law_579 : decode cL_law 579 = .ok (.iconst 1, 1) := by decide +kernel
theorem dL_law_580 : decode cL_law 580 = .ok (.iadd, 1) := by decide +kernel
theorem dL_law_581 : decode cL_law 581 = .ok (.iaload, 1) := by decide +kernel
theorem dL_law_582 : decode cL_law 582 = .ok (.invokevirtual 73, 3) := by decide +kernel
theorem dL_law_585 : decode cL_law 585 = .ok (.aload_n 2, 1) := by decide +kernel
theorem dL_law_586 : decode cL_law 586 = .ok (.aload_n 0, 1) := by decide +kernel
theorem dL_law_587 : decode cL_law 587 = .ok (.iload_n 3, 1) := by decide +kernel
theorem dL_law_588 : decode cL_law 588 = .ok (.iconst 1, 1) := by decide +kernel
theorem dL_law_589 : decode cL_law 589 = .ok (.iadd, 1) := by decide +kernel
theorem dL_law_590 : decode cL_law 590 = .ok (.iaload, 1) := by decide +kernel
theorem dL_law_591 : decode cL_law 591 = .ok (.invokevirtual 76, 3) := by decide +kernel
theorem dL_law_594 : decode cL_law 594 = .ok (.if_icmp .eq 553, 3) := by decide +kernel
theorem dL_law_597 : decode cL_law 597 = .ok (.iconst 0, 1) := by decide +kernel
theorem dL_law_598 : decode cL_law 598 = .ok (.ireturn, 1) := by decide +kernel
theorem dL_law_599 : decode cL_law 599 = .ok (.aload_n 1, 1) := by decide +kernel
theorem dL_law_600 : decode cL_law 600 = .ok (.aload_n 0, 1) := by decide +kernel
theorem dL_law_601 : decode cL_law 601 = .ok (.iload_n 3, 1) := by decide +kernel
theorem dL_law_602 : decode cL_law 602 = .ok (.iconst 1, 1) := by decide +kernel
theorem dL_law_603 : decode cL_law 603 = .ok (.iadd, 1) := by decide +kernel
theorem dL_law_604 : decode cL_law 604 = .ok (.iaload, 1) := by decide +kernel
theorem dL_law_605 : decode cL_law 605 = .ok (.invokevirtual 77, 3) := by decide +kernel
theorem dL_law_608 : decode cL_law 608 = .ok (.aload_n 2, 1) := by decide +kernel
theorem dL_law_609 : decode cL_law 609 = .ok (.aload_n 0, 1) := by decide +kernel
theorem dL_law_610 : decode cL_law 610 = .ok (.iload_n 3, 1) := by decide +kernel
theorem dL_law_611 : decode cL_law 611 = .ok (.iconst 1, 1) := by decide +kernel
theorem dL_law_612 : decode cL_law 612 = .ok (.iadd, 1) := by decide +kernel
theorem dL_law_613 : decode cL_law 613 = .ok (.iaload, 1) := by decide +kernel
theorem dL_law_614 : decode cL_law 614 = .ok (.invokevirtual 80, 3) := by decide +kernel
theorem dL_law_617 : decode cL_law 617 = .ok (.if_icmp .eq 530, 3) := by decide +kernel
theorem dL_law_620 : decode cL_law 620 = .ok (.iconst 0, 1) := by decide +kernel
theorem dL_law_621 : decode cL_law 621 = .ok (.ireturn, 1) := by decide +kernel
theorem dL_law_622 : decode cL_law 622 = .ok (.aload_n 1, 1) := by decide +kernel
theorem dL_law_623 : decode cL_law 623 = .ok (.aload_n 0, 1) := by decide +kernel
theorem dL_law_624 : decode cL_law 624 = .ok (.iload_n 3, 1) := by decide +kernel
theorem dL_law_625 : decode cL_law 625 = .ok (.iconst 1, 1) := by decide +kernel
theorem dL_law_626 : decode cL_law 626 = .ok (.iadd, 1) := by decide +kernel
theorem dL_law_627 : decode cL_law 627 = .ok (.iaload, 1) := by decide +kernel
theorem dL_law_628 : decode cL_law 628 = .ok (.invokevirtual 81, 3) := by decide +kernel
theorem dL_law_631 : decode cL_law 631 = .ok (.aload_n 2, 1) := by decide +kernel
theorem dL_law_632 : decode cL_law 632 = .ok (.aload_n 0, 1) := by decide +kernel
theorem dL_law_633 : decode cL_law 633 = .ok (.iload_n 3, 1) := by decide +kernel
theorem dL_law_634 : decode cL_law 634 = .ok (.iconst 1, 1) := by decide +kernel
theorem dL_law_635 : decode cL_law 635 = .ok (.iadd, 1) := by decide +kernel
theorem dL_law_636 : decode cL_law 636 = .ok (.iaload, 1) := by decide +kernel
theorem dL_law_637 : decode cL_law 637 = .ok (.invokevirtual 84, 3) := by decide +kernel
theorem dL_law_640 : decode cL_law 640 = .ok (.if_icmp .eq 507, 3) := by decide +kernel
theorem dL_law_643 : decode cL_law 643 = .ok (.iconst 0, 1) := by decide +kernel
theorem dL_law_644 : decode cL_law 644 = .ok (.ireturn, 1) := by decide +kernel
theorem dL_law_645 : decode cL_law 645 = .ok (.aload_n 1, 1) := by decide +kernel
theorem dL_law_646 : decode cL_law 646 = .ok (.aload_n 0, 1) := by decide +kernel
theorem dL_law_647 : decode cL_law 647 = .ok (.iload_n 3, 1) := by decide +kernel
theorem dL_law_648 : decode cL_law 648 = .ok (.iconst 1, 1) := by decide +kernel
theorem dL_law_649 : decode cL_law 649 = .ok (.iadd, 1) := by decide +kernel
theorem dL_law_650 : decode cL_law 650 = .ok (.iaload, 1) := by decide +kernel
theorem dL_law_651 : decode cL_law 651 = .ok (.aload_n 0, 1) := by decide +kernel
theorem dL_law_652 : decode cL_law 652 = .ok (.iload_n 3, 1) := by decide +kernel
theorem dL_law_653 : decode cL_law 653 = .ok (.iconst 2, 1) := by decide +kernel
theorem dL_law_654 : decode cL_law 654 = .ok (.iadd, 1) := by decide +kernel
theorem dL_law_655 : decode cL_law 655 = .ok (.iaload, 1) := by decide +kernel
theorem dL_law_656 : decode cL_law 656 = .ok (.invokevirtual 85, 3) := by decide +kernel
theorem dL_law_659 : decode cL_law 659 = .ok (.aload_n 2, 1) := by decide +kernel
theorem dL_law_660 : decode cL_law 660 = .ok (.aload_n 0, 1) := by decide +kernel
theorem dL_law_661 : decode cL_law 661 = .ok (.iload_n 3, 1) := by decide +kernel
theorem dL_law_662 : decode cL_law 662 = .ok (.iconst 1, 1) := by decide +kernel
theorem dL_law_663 : decode cL_law 663 = .ok (.iadd, 1) := by decide +kernel
theorem dL_law_664 : decode cL_law 664 = .ok (.iaload, 1) := by decide +kernel
theorem dL_law_665 : decode cL_law 665 = .ok (.aload_n 0, 1) := by decide +kernel
theorem dL_law_666 : decode cL_law 666 = .ok (.iload_n 3, 1) := by decide +kernel
theorem dL_law_667 : decode cL_law 667 = .ok (.iconst 2, 1) := by decide +kernel
theorem dL_law_668 : decode cL_law 668 = .ok (.iadd, 1) := by decide +kernel
theorem dL_law_669 : decode cL_law 669 = .ok (.iaload, 1) := by decide +kernel
theorem dL_law_670 : decode cL_law 670 = .ok (.invokevirtual 88, 3) := by decide +kernel
theorem dL_law_673 : decode cL_law 673 = .ok (.if_icmp .eq 474, 3) := by decide +kernel
theorem dL_law_676 : decode cL_law 676 = .ok (.iconst 0, 1) := by decide +kernel
theorem dL_law_677 : decode cL_law 677 = .ok (.ireturn, 1) := by decide +kernel
theorem dL_law_678 : decode cL_law 678 = .ok (.aload_n 1, 1) := by decide +kernel
theorem dL_law_679 : decode cL_law 679 = .ok (.aload_n 0, 1) := by decide +kernel
theorem dL_law_680 : decode cL_law 680 = .ok (.iload_n 3, 1) := by decide +kernel
theorem dL_law_681 : decode cL_law 681 = .ok (.iconst 1, 1) := by decide +kernel
theorem dL_law_682 : decode cL_law 682 = .ok (.iadd, 1) := by decide +kernel
theorem dL_law_683 : decode cL_law 683 = .ok (.iaload, 1) := by decide +kernel
theorem dL_law_684 : decode cL_law 684 = .ok (.aload_n 0, 1) := by decide +kernel
theorem dL_law_685 : decode cL_law 685 = .ok (.iload_n 3, 1) := by decide +kernel
theorem dL_law_686 : decode cL_law 686 = .ok (.iconst 2, 1) := by decide +kernel
theorem dL_law_687 : decode cL_law 687 = .ok (.iadd, 1) := by decide +kernel
theorem dL_law_688 : decode cL_law 688 = .ok (.iaload, 1) := by decide +kernel
theorem dL_law_689 : decode cL_law 689 = .ok (.invokevirtual 89, 3) := by decide +kernel
theorem dL_law_692 : decode cL_law 692 = .ok (.aload_n 2, 1) := by decide +kernel
theorem dL_law_693 : decode cL_law 693 = .ok (.aload_n 0, 1) := by decide +kernel
theorem dL_law_694 : decode cL_law 694 = .ok (.iload_n 3, 1) := by decide +kernel
theorem dL_law_695 : decode cL_law 695 = .ok (.iconst 1, 1) := by decide +kernel
theorem dL_law_696 : decode cL_law 696 = .ok (.iadd, 1) := by decide +kernel
theorem dL_law_697 : decode cL_law 697 = .ok (.iaload, 1) := by decide +kernel
theorem dL_law_698 : decode cL_law 698 = .ok (.aload_n 0, 1) := by decide +kernel
theorem dL_law_699 : decode cL_law 699 = .ok (.iload_n 3, 1) := by decide +kernel
theorem dL_law_700 : decode cL_law 700 = .ok (.iconst 2, 1) := by decide +kernel
theorem dL_law_701 : decode cL_law 701 = .ok (.iadd, 1) := by decide +kernel
theorem dL_law_702 : decode cL_law 702 = .ok (.iaload, 1) := by decide +kernel
theorem dL_law_703 : decode cL_law 703 = .ok (.invokevirtual 92, 3) := by decide +kernel
theorem dL_law_706 : decode cL_law 706 = .ok (.if_icmp .eq 441, 3) := by decide +kernel
theorem dL_law_709 : decode cL_law 709 = .ok (.iconst 0, 1) := by decide +kernel
theorem dL_law_710 : decode cL_law 710 = .ok (.ireturn, 1) := by decide +kernel
theorem dL_law_711 : decode cL_law 711 = .ok (.aload_n 1, 1) := by decide +kernel
theorem dL_law_712 : decode cL_law 712 = .ok (.aload_n 0, 1) := by decide +kernel
theorem dL_law_713 : decode cL_law 713 = .ok (.iload_n 3, 1) := by decide +kernel
theorem dL_law_714 : decode cL_law 714 = .ok (.iconst 1, 1) := by decide +kernel
theorem dL_law_715 : decode cL_law 715 = .ok (.iadd, 1) := by decide +kernel
theorem dL_law_716 : decode cL_law 716 = .ok (.iaload, 1) := by decide +kernel
theorem dL_law_717 : decode cL_law 717 = .ok (.invokevirtual 93, 3) := by decide +kernel
theorem dL_law_720 : decode cL_law 720 = .ok (.aload_n 2, 1) := by decide +kernel
theorem dL_law_721 : decode cL_law 721 = .ok (.aload_n 0, 1) := by decide +kernel
theorem dL_law_722 : decode cL_law 722 = .ok (.iload_n 3, 1) := by decide +kernel
theorem dL_law_723 : decode cL_law 723 = .ok (.iconst 1, 1) := by decide +kernel
theorem dL_law_724 : decode cL_law 724 = .ok (.iadd, 1) := by decide +kernel
theorem dL_law_725 : decode cL_law 725 = .ok (.iaload, 1) := by decide +kernel
theorem dL_law_726 : decode cL_law 726 = .ok (.invokevirtual 96, 3) := by decide +kernel
theorem dL_law_729 : decode cL_law 729 = .ok (.if_icmp .eq 418, 3) := by decide +kernel
theorem dL_law_732 : decode cL_law 732 = .ok (.iconst 0, 1) := by decide +kernel
theorem dL_law_733 : decode cL_law 733 = .ok (.ireturn, 1) := by decide +kernel
theorem dL_law_734 : decode cL_law 734 = .ok (.aload_n 1, 1) := by decide +kernel
theorem dL_law_735 : decode cL_law 735 = .ok (.aload_n 0, 1) := by decide +kernel
theorem dL_law_736 : decode cL_law 736 = .ok (.iload_n 3, 1) := by decide +kernel
theorem dL_law_737 : decode cL_law 737 = .ok (.iconst 1, 1) := by decide +kernel
theorem dL_law_738 : decode cL_law 738 = .ok (.iadd, 1) := by decide +kernel
theorem dL_law_739 : decode cL_law 739 = .ok (.iaload, 1) := by decide +kernel
theorem dL_law_740 : decode cL_law 740 = .ok (.invokevirtual 97, 3) := by decide +kernel
theorem dL_law_743 : decode cL_law 743 = .ok (.aload_n 2, 1) := by decide +kernel
theorem dL_law_744 : decode cL_law 744 = .ok (.aload_n 0, 1) := by decide +kernel
theorem dL_law_745 : decode cL_law 745 = .ok (.iload_n 3, 1) := by decide +kernel
theorem dL_law_746 : decode cL_law 746 = .ok (.iconst 1, 1) := by decide +kernel
theorem dL_law_747 : decode cL_law 747 = .ok (.iadd, 1) := by decide +kernel
theorem dL_law_748 : decode cL_law 748 = .ok (.iaload, 1) := by decide +kernel
theorem dL_law_749 : decode cL_law 749 = .ok (.invokevirtual 100, 3) := by decide +kernel
theorem dL_law_752 : decode cL_law 752 = .ok (.if_icmp .eq 395, 3) := by decide +kernel
theorem dL_law_755 : decode cL_law 755 = .ok (.iconst 0, 1) := by decide +kernel
theorem dL_law_756 : decode cL_law 756 = .ok (.ireturn, 1) := by decide +kernel
theorem dL_law_757 : decode cL_law 757 = .ok (.aload_n 1, 1) := by decide +kernel
theorem dL_law_758 : decode cL_law 758 = .ok (.aload_n 0, 1) := by decide +kernel
theorem dL_law_759 : decode cL_law 759 = .ok (.iload_n 3, 1) := by decide +kernel
theorem dL_law_760 : decode cL_law 760 = .ok (.iconst 1, 1) := by decide +kernel
theorem dL_law_761 : decode cL_law 761 = .ok (.iadd, 1) := by decide +kernel
theorem dL_law_762 : decode cL_law 762 = .ok (.iaload, 1) := by decide +kernel
theorem dL_law_763 : decode cL_law 763 = .ok (.invokevirtual 101, 3) := by decide +kernel
theorem dL_law_766 : decode cL_law 766 = .ok (.aload_n 2, 1) := by decide +kernel
theorem dL_law_767 : decode cL_law 767 = .ok (.aload_n 0, 1) := by decide +kernel
theorem dL_law_768 : decode cL_law 768 = .ok (.iload_n 3, 1) := by decide +kernel
theorem dL_law_769 : decode cL_law 769 = .ok (.iconst 1, 1) := by decide +kernel
theorem dL_law_770 : decode cL_law 770 = .ok (.iadd, 1) := by decide +kernel
theorem dL_law_771 : decode cL_law 771 = .ok (.iaload, 1) := by decide +kernel
theorem dL_law_772 : decode cL_law 772 = .ok (.invokevirtual 104, 3) := by decide +kernel
theorem dL_law_775 : decode cL_law 775 = .ok (.if_icmp .eq 372, 3) := by decide +kernel
theorem dL_law_778 : decode cL_law 778 = .ok (.iconst 0, 1) := by decide +kernel
theorem dL_law_779 : decode cL_law 779 = .ok (.ireturn, 1) := by decide +kernel
theorem dL_law_780 : decode cL_law 780 = .ok (.aload_n 1, 1) := by decide +kernel
theorem dL_law_781 : decode cL_law 781 = .ok (.invokevirtual 105, 3) := by decide +kernel
theorem dL_law_784 : decode cL_law 784 = .ok (.aload_n 2, 1) := by decide +kernel
theorem dL_law_785 : decode cL_law 785 = .ok (.invokevirtual 108, 3) := by decide +kernel
theorem dL_law_788 : decode cL_law 788 = .ok (.if_icmp .eq 359, 3) := by decide +kernel
theorem dL_law_791 : decode cL_law 791 = .ok (.iconst 0, 1) := by decide +kernel
theorem dL_law_792 : decode cL_law 792 = .ok (.ireturn, 1) := by decide +kernel
theorem dL_law_793 : decode cL_law 793 = .ok (.aload_n 1, 1) := by decide +kernel
theorem dL_law_794 : decode cL_law 794 = .ok (.invokevirtual 109, 3) := by decide +kernel
theorem dL_law_797 : decode cL_law 797 = .ok (.aload_n 2, 1) := by decide +kernel
theorem dL_law_798 : decode cL_law 798 = .ok (.invokevirtual 112, 3) := by decide +kernel
theorem dL_law_801 : decode cL_law 801 = .ok (.if_icmp .eq 346, 3) := by decide +kernel
theorem dL_law_804 : decode cL_law 804 = .ok (.iconst 0, 1) := by decide +kernel
theorem dL_law_805 : decode cL_law 805 = .ok (.ireturn, 1) := by decide +kernel
theorem dL_law_806 : decode cL_law 806 = .ok (.aload_n 1, 1) := by decide +kernel
theorem dL_law_807 : decode cL_law 807 = .ok (.aload_n 0, 1) := by decide +kernel
theorem dL_law_808 : decode cL_law 808 = .ok (.iload_n 3, 1) := by decide +kernel
theorem dL_law_809 : decode cL_law 809 = .ok (.iconst 1, 1) := by decide +kernel
theorem dL_law_810 : decode cL_law 810 = .ok (.iadd, 1) := by decide +kernel
theorem dL_law_811 : decode cL_law 811 = .ok (.iaload, 1) := by decide +kernel
theorem dL_law_812 : decode cL_law 812 = .ok (.invokevirtual 113, 3) := by decide +kernel
theorem dL_law_815 : decode cL_law 815 = .ok (.aload_n 2, 1) := by decide +kernel
theorem dL_law_816 : decode cL_law 816 = .ok (.aload_n 0, 1) := by decide +kernel
theorem dL_law_817 : decode cL_law 817 = .ok (.iload_n 3, 1) := by decide +kernel
theorem dL_law_818 : decode cL_law 818 = .ok (.iconst 1, 1) := by decide +kernel
theorem dL_law_819 : decode cL_law 819 = .ok (.iadd, 1) := by decide +kernel
theorem dL_law_820 : decode cL_law 820 = .ok (.iaload, 1) := by decide +kernel
theorem dL_law_821 : decode cL_law 821 = .ok (.invokevirtual 116, 3) := by decide +kernel
theorem dL_law_824 : decode cL_law 824 = .ok (.if_icmp .eq 323, 3) := by decide +kernel
theorem dL_law_827 : decode cL_law 827 = .ok (.iconst 0, 1) := by decide +kernel
theorem dL_law_828 : decode cL_law 828 = .ok (.ireturn, 1) := by decide +kernel
theorem dL_law_829 : decode cL_law 829 = .ok (.aload_n 1, 1) := by decide +kernel
theorem dL_law_830 : decode cL_law 830 = .ok (.aload_n 0, 1) := by decide +kernel
theorem dL_law_831 : decode cL_law 831 = .ok (.iload_n 3, 1) := by decide +kernel
theorem dL_law_832 : decode cL_law 832 = .ok (.iconst 1, 1) := by decide +kernel
theorem dL_law_833 : decode cL_law 833 = .ok (.iadd, 1) := by decide +kernel
theorem dL_law_834 : decode cL_law 834 = .ok (.iaload, 1) := by decide +kernel
theorem dL_law_835 : decode cL_law 835 = .ok (.invokevirtual 117, 3) := by decide +kernel
theorem dL_law_838 : decode cL_law 838 = .ok (.aload_n 2, 1) := by decide +kernel
theorem dL_law_839 : decode cL_law 839 = .ok (.aload_n 0, 1) := by decide +kernel
theorem dL_law_840 : decode cL_law 840 = .ok (.iload_n 3, 1) := by decide +kernel
theorem dL_law_841 : decode cL_law 841 = .ok (.iconst 1, 1) := by decide +kernel
theorem dL_law_842 : decode cL_law 842 = .ok (.iadd, 1) := by decide +kernel
theorem dL_law_843 : decode cL_law 843 = .ok (.iaload, 1) := by decide +kernel
theorem dL_law_844 : decode cL_law 844 = .ok (.invokevirtual 120, 3) := by decide +kernel
theorem dL_law_847 : decode cL_law 847 = .ok (.if_icmp .eq 300, 3) := by decide +kernel
theorem dL_law_850 : decode cL_law 850 = .ok (.iconst 0, 1) := by decide +kernel
theorem dL_law_851 : decode cL_law 851 = .ok (.ireturn, 1) := by decide +kernel
theorem dL_law_852 : decode cL_law 852 = .ok (.aload_n 1, 1) := by decide +kernel
theorem dL_law_853 : decode cL_law 853 = .ok (.aload_n 0, 1) := by decide +kernel
theorem dL_law_854 : decode cL_law 854 = .ok (.iload_n 3, 1) := by decide +kernel
theorem dL_law_855 : decode cL_law 855 = .ok (.iconst 1, 1) := by decide +kernel
theorem dL_law_856 : decode cL_law 856 = .ok (.iadd, 1) := by decide +kernel
theorem dL_law_857 : decode cL_law 857 = .ok (.iaload, 1) := by decide +kernel
theorem dL_law_858 : decode cL_law 858 = .ok (.aload_n 0, 1) := by decide +kernel
theorem dL_law_859 : decode cL_law 859 = .ok (.iload_n 3, 1) := by decide +kernel
theorem dL_law_860 : decode cL_law 860 = .ok (.iconst 2, 1) := by decide +kernel
theorem dL_law_861 : decode cL_law 861 = .ok (.iadd, 1) := by decide +kernel
theorem dL_law_862 : decode cL_law 862 = .ok (.iaload, 1) := by decide +kernel
theorem dL_law_863 : decode cL_law 863 = .ok (.invokevirtual 121, 3) := by decide +kernel
theorem dL_law_866 : decode cL_law 866 = .ok (.aload_n 2, 1) := by decide +kernel
theorem dL_law_867 : decode cL_law 867 = .ok (.aload_n 0, 1) := by decide +kernel
theorem dL_law_868 : decode cL_law 868 = .ok (.iload_n 3, 1) := by decide +kernel
theorem dL_law_869 : decode cL_law 869 = .ok (.iconst 1, 1) := by decide +kernel
theorem dL_law_870 : decode cL_law 870 = .ok (.iadd, 1) := by decide +kernel
theorem dL_law_871 : decode cL_law 871 = .ok (.iaload, 1) := by decide +kernel
theorem dL_law_872 : decode cL_law 872 = .ok (.aload_n 0, 1) := by decide +kernel
theorem dL_law_873 : decode cL_law 873 = .ok (.iload_n 3, 1) := by decide +kernel
theorem dL_law_874 : decode cL_law 874 = .ok (.iconst 2, 1) := by decide +kernel
theorem dL_law_875 : decode cL_law 875 = .ok (.iadd, 1) := by decide +kernel
theorem dL_law_876 : decode cL_law 876 = .ok (.iaload, 1) := by decide +kernel
theorem dL_law_877 : decode cL_law 877 = .ok (.invokevirtual 124, 3) := by decide +kernel
theorem dL_law_880 : decode cL_law 880 = .ok (.if_icmp .eq 267, 3) := by decide +kernel
theorem dL_law_883 : decode cL_law 883 = .ok (.iconst 0, 1) := by decide +kernel
theorem dL_law_884 : decode cL_law 884 = .ok (.ireturn, 1) := by decide +kernel
theorem dL_law_885 : decode cL_law 885 = .ok (.aload_n 1, 1) := by decide +kernel
theorem dL_law_886 : decode cL_law 886 = .ok (.aload_n 0, 1) := by decide +kernel
theorem dL_law_887 : decode cL_law 887 = .ok (.iload_n 3, 1) := by decide +kernel
theorem dL_law_888 : decode cL_law 888 = .ok (.iconst 1, 1) := by decide +kernel
theorem dL_law_889 : decode cL_law 889 = .ok (.iadd, 1) := by decide +kernel
theorem dL_law_890 : decode cL_law 890 = .ok (.iaload, 1) := by decide +kernel
theorem dL_law_891 : decode cL_law 891 = .ok (.aload_n 0, 1) := by decide +kernel
theorem dL_law_892 : decode cL_law 892 = .ok (.iload_n 3, 1) := by decide +kernel
theorem dL_law_893 : decode cL_law 893 = .ok (.iconst 2, 1) := by decide +kernel
theorem dL_law_894 : decode cL_law 894 = .ok (.iadd, 1) := by decide +kernel
theorem dL_law_895 : decode cL_law 895 = .ok (.iaload, 1) := by decide +kernel
theorem dL_law_896 : decode cL_law 896 = .ok (.aload_n 0, 1) := by decide +kernel
theorem dL_law_897 : decode cL_law 897 = .ok (.iload_n 3, 1) := by decide +kernel
theorem dL_law_898 : decode cL_law 898 = .ok (.iconst 3, 1) := by decide +kernel
theorem dL_law_899 : decode cL_law 899 = .ok (.iadd, 1) := by decide +kernel
theorem dL_law_900 : decode cL_law 900 = .ok (.iaload, 1) := by decide +kernel
theorem dL_law_901 : decode cL_law 901 = .ok (.i2l, 1) := by decide +kernel
theorem dL_law_902 : decode cL_law 902 = .ok (.bipush 32, 2) := by decide +kernel
theorem dL_law_904 : decode cL_law 904 = .ok (.lshl, 1) := by decide +kernel
theorem dL_law_905 : decode cL_law 905 = .ok (.aload_n 0, 1) := by decide +kernel
theorem dL_law_906 : decode cL_law 906 = .ok (.iload_n 3, 1) := by decide +kernel
theorem dL_law_907 : decode cL_law 907 = .ok (.iconst 4, 1) := by decide +kernel
theorem dL_law_908 : decode cL_law 908 = .ok (.iadd, 1) := by decide +kernel
theorem dL_law_909 : decode cL_law 909 = .ok (.iaload, 1) := by decide +kernel
theorem dL_law_910 : decode cL_law 910 = .ok (.i2l, 1) := by decide +kernel
theorem dL_law_911 : decode cL_law 911 = .ok (.ldc2_w 125, 3) := by decide +kernel
theorem dL_law_914 : decode cL_law 914 = .ok (.land, 1) := by decide +kernel
theorem dL_law_915 : decode cL_law 915 = .ok (.lor, 1) := by decide +kernel
theorem dL_law_916 : decode cL_law 916 = .ok (.invokevirtual 127, 3) := by decide +kernel
theorem dL_law_919 : decode cL_law 919 = .ok (.aload_n 2, 1) := by decide +kernel
theorem dL_law_920 : decode cL_law 920 = .ok (.aload_n 0, 1) := by decide +kernel
theorem dL_law_921 : decode cL_law 921 = .ok (.iload_n 3, 1) := by decide +kernel
theorem dL_law_922 : decode cL_law 922 = .ok (.iconst 1, 1) := by decide +kernel
theorem dL_law_923 : decode cL_law 923 = .ok (.iadd, 1) := by decide +kernel
theorem dL_law_924 : decode cL_law 924 = .ok (.iaload, 1) := by decide +kernel
theorem dL_law_925 : decode cL_law 925 = .ok (.aload_n 0, 1) := by decide +kernel
theorem dL_law_926 : decode cL_law 926 = .ok (.iload_n 3, 1) := by decide +kernel
theorem dL_law_927 : decode cL_law 927 = .ok (.iconst 2, 1) := by decide +kernel
theorem dL_law_928 : decode cL_law 928 = .ok (.iadd, 1) := by decide +kernel
theorem dL_law_929 : decode cL_law 929 = .ok (.iaload, 1) := by decide +kernel
theorem dL_law_930 : decode cL_law 930 = .ok (.aload_n 0, 1) := by decide +kernel
theorem dL_law_931 : decode cL_law 931 = .ok (.iload_n 3, 1) := by decide +kernel
theorem dL_law_932 : decode cL_law 932 = .ok (.iconst 3, 1) := by decide +kernel
theorem dL_law_933 : decode cL_law 933 = .ok (.iadd, 1) := by decide +kernel
theorem dL_law_934 : decode cL_law 934 = .ok (.iaload, 1) := by decide +kernel
theorem dL_law_935 : decode cL_law 935 = .ok (.i2l, 1) := by decide +kernel
theorem dL_law_936 : decode cL_law 936 = .ok (.bipush 32, 2) := by decide +kernel
theorem dL_law_938 : decode cL_law 938 = .ok (.lshl, 1) := by decide +kernel
theorem dL_law_939 : decode cL_law 939 = .ok (.aload_n 0, 1) := by decide +kernel
theorem dL_law_940 : decode cL_law 940 = .ok (.iload_n 3, 1) := by decide +kernel
theorem dL_law_941 : decode cL_law 941 = .ok (.iconst 4, 1) := by decide +kernel
theorem dL_law_942 : decode cL_law 942 = .ok (.iadd, 1) := by decide +kernel
theorem dL_law_943 : decode cL_law 943 = .ok (.iaload, 1) := by decide +kernel
theorem dL_law_944 : decode cL_law 944 = .ok (.i2l, 1) := by decide +kernel
theorem dL_law_945 : decode cL_law 945 = .ok (.ldc2_w 125, 3) := by decide +kernel
theorem dL_law_948 : decode cL_law 948 = .ok (.land, 1) := by decide +kernel
theorem dL_law_949 : decode cL_law 949 = .ok (.lor, 1) := by decide +kernel
theorem dL_law_950 : decode cL_law 950 = .ok (.invokevirtual 131, 3) := by decide +kernel
theorem dL_law_953 : decode cL_law 953 = .ok (.if_icmp .eq 194, 3) := by decide +kernel
theorem dL_law_956 : decode cL_law 956 = .ok (.iconst 0, 1) := by decide +kernel
theorem dL_law_957 : decode cL_law 957 = .ok (.ireturn, 1) := by decide +kernel
theorem dL_law_958 : decode cL_law 958 = .ok (.aload_n 1, 1) := by decide +kernel
theorem dL_law_959 : decode cL_law 959 = .ok (.aload_n 0, 1) := by decide +kernel
theorem dL_law_960 : decode cL_law 960 = .ok (.iload_n 3, 1) := by decide +kernel
theorem dL_law_961 : decode cL_law 961 = .ok (.iconst 1, 1) := by decide +kernel
theorem dL_law_962 : decode cL_law 962 = .ok (.iadd, 1) := by decide +kernel
theorem dL_law_963 : decode cL_law 963 = .ok (.iaload, 1) := by decide +kernel
theorem dL_law_964 : decode cL_law 964 = .ok (.aload_n 0, 1) := by decide +kernel
theorem dL_law_965 : decode cL_law 965 = .ok (.iload_n 3, 1) := by decide +kernel
theorem dL_law_966 : decode cL_law 966 = .ok (.iconst 2, 1) := by decide +kernel
theorem dL_law_967 : decode cL_law 967 = .ok (.iadd, 1) := by decide +kernel
theorem dL_law_968 : decode cL_law 968 = .ok (.iaload, 1) := by decide +kernel
theorem dL_law_969 : decode cL_law 969 = .ok (.invokevirtual 132, 3) := by decide +kernel
theorem dL_law_972 : decode cL_law 972 = .ok (.aload_n 2, 1) := by decide +kernel
theorem dL_law_973 : decode cL_law 973 = .ok (.aload_n 0, 1) := by decide +kernel
theorem dL_law_974 : decode cL_law 974 = .ok (.iload_n 3, 1) := by decide +kernel
theorem dL_law_975 : decode cL_law 975 = .ok (.iconst 1, 1) := by decide +kernel
theorem dL_law_976 : decode cL_law 976 = .ok (.iadd, 1) := by decide +kernel
theorem dL_law_977 : decode cL_law 977 = .ok (.iaload, 1) := by decide +kernel
theorem dL_law_978 : decode cL_law 978 = .ok (.aload_n 0, 1) := by decide +kernel
theorem dL_law_979 : decode cL_law 979 = .ok (.iload_n 3, 1) := by decide +kernel
theorem dL_law_980 : decode cL_law 980 = .ok (.iconst 2, 1) := by decide +kernel
theorem dL_law_981 : decode cL_law 981 = .ok (.iadd, 1) := by decide +kernel
theorem dL_law_982 : decode cL_law 982 = .ok (.iaload, 1) := by decide +kernel
theorem dL_law_983 : decode cL_law 983 = .ok (.invokevirtual 136, 3) := by decide +kernel
theorem dL_law_986 : decode cL_law 986 = .ok (.lcmp, 1) := by decide +kernel
theorem dL_law_987 : decode cL_law 987 = .ok (.ifCond .eq 160, 3) := by decide +kernel
theorem dL_law_990 : decode cL_law 990 = .ok (.iconst 0, 1) := by decide +kernel
theorem dL_law_991 : decode cL_law 991 = .ok (.ireturn, 1) := by decide +kernel
theorem dL_law_992 : decode cL_law 992 = .ok (.aload_n 1, 1) := by decide +kernel
theorem dL_law_993 : decode cL_law 993 = .ok (.aload_n 0, 1) := by decide +kernel
theorem dL_law_994 : decode cL_law 994 = .ok (.iload_n 3, 1) := by decide +kernel
theorem dL_law_995 : decode cL_law 995 = .ok (.iconst 1, 1) := by decide +kernel
theorem dL_law_996 : decode cL_law 996 = .ok (.iadd, 1) := by decide +kernel
theorem dL_law_997 : decode cL_law 997 = .ok (.iaload, 1) := by decide +kernel
theorem dL_law_998 : decode cL_law 998 = .ok (.aload_n 0, 1) := by decide +kernel
theorem dL_law_999 : decode cL_law 999 = .ok (.iload_n 3, 1) := by decide +kernel
theorem dL_law_1000 : decode cL_law 1000 = .ok (.iconst 2, 1) := by decide +kernel
theorem dL_law_1001 : decode cL_law 1001 = .ok (.iadd, 1) := by decide +kernel
theorem dL_law_1002 : decode cL_law 1002 = .ok (.iaload, 1) := by decide +kernel
theorem dL_law_1003 : decode cL_law 1003 = .ok (.aload_n 0, 1) := by decide +kernel
theorem dL_law_1004 : decode cL_law 1004 = .ok (.iload_n 3, 1) := by decide +kernel
theorem dL_law_1005 : decode cL_law 1005 = .ok (.iconst 3, 1) := by decide +kernel
theorem dL_law_1006 : decode cL_law 1006 = .ok (.iadd, 1) := by decide +kernel
theorem dL_law_1007 : decode cL_law 1007 = .ok (.iaload, 1) := by decide +kernel
theorem dL_law_1008 : decode cL_law 1008 = .ok (.aload_n 0, 1) := by decide +kernel
theorem dL_law_1009 : decode cL_law 1009 = .ok (.iload_n 3, 1) := by decide +kernel
theorem dL_law_1010 : decode cL_law 1010 = .ok (.iconst 4, 1) := by decide +kernel
theorem dL_law_1011 : decode cL_law 1011 = .ok (.iadd, 1) := by decide +kernel
theorem dL_law_1012 : decode cL_law 1012 = .ok (.iaload, 1) := by decide +kernel
theorem dL_law_1013 : decode cL_law 1013 = .ok (.aload_n 0, 1) := by decide +kernel
theorem dL_law_1014 : decode cL_law 1014 = .ok (.iload_n 3, 1) := by decide +kernel
theorem dL_law_1015 : decode cL_law 1015 = .ok (.iconst 5, 1) := by decide +kernel
theorem dL_law_1016 : decode cL_law 1016 = .ok (.iadd, 1) := by decide +kernel
theorem dL_law_1017 : decode cL_law 1017 = .ok (.iaload, 1) := by decide +kernel
theorem dL_law_1018 : decode cL_law 1018 = .ok (.invokevirtual 137, 3) := by decide +kernel
theorem dL_law_1021 : decode cL_law 1021 = .ok (.aload_n 2, 1) := by decide +kernel
theorem dL_law_1022 : decode cL_law 1022 = .ok (.aload_n 0, 1) := by decide +kernel
theorem dL_law_1023 : decode cL_law 1023 = .ok (.iload_n 3, 1) := by decide +kernel
theorem dL_law_1024 : decode cL_law 1024 = .ok (.iconst 1, 1) := by decide +kernel
theorem dL_law_1025 : decode cL_law 1025 = .ok (.iadd, 1) := by decide +kernel
theorem dL_law_1026 : decode cL_law 1026 = .ok (.iaload, 1) := by decide +kernel
theorem dL_law_1027 : decode cL_law 1027 = .ok (.aload_n 0, 1) := by decide +kernel
theorem dL_law_1028 : decode cL_law 1028 = .ok (.iload_n 3, 1) := by decide +kernel
theorem dL_law_1029 : decode cL_law 1029 = .ok (.iconst 2, 1) := by decide +kernel
theorem dL_law_1030 : decode cL_law 1030 = .ok (.iadd, 1) := by decide +kernel
theorem dL_law_1031 : decode cL_law 1031 = .ok (.iaload, 1) := by decide +kernel
theorem dL_law_1032 : decode cL_law 1032 = .ok (.aload_n 0, 1) := by decide +kernel
theorem dL_law_1033 : decode cL_law 1033 = .ok (.iload_n 3, 1) := by decide +kernel
theorem dL_law_1034 : decode cL_law 1034 = .ok (.iconst 3, 1) := by decide +kernel
theorem dL_law_1035 : decode cL_law 1035 = .ok (.iadd, 1) := by decide +kernel
theorem dL_law_1036 : decode cL_law 1036 = .ok (.iaload, 1) := by decide +kernel
theorem dL_law_1037 : decode cL_law 1037 = .ok (.aload_n 0, 1) := by decide +kernel
theorem dL_law_1038 : decode cL_law 1038 = .ok (.iload_n 3, 1) := by decide +kernel
theorem dL_law_1039 : decode cL_law 1039 = .ok (.iconst 4, 1) := by decide +kernel
theorem dL_law_1040 : decode cL_law 1040 = .ok (.iadd, 1) := by decide +kernel
theorem dL_law_1041 : decode cL_law 1041 = .ok (.iaload, 1) := by decide +kernel
theorem dL_law_1042 : decode cL_law 1042 = .ok (.aload_n 0, 1) := by decide +kernel
theorem dL_law_1043 : decode cL_law 1043 = .ok (.iload_n 3, 1) := by decide +kernel
theorem dL_law_1044 : decode cL_law 1044 = .ok (.iconst 5, 1) := by decide +kernel
theorem dL_law_1045 : decode cL_law 1045 = .ok (.iadd, 1) := by decide +kernel
theorem dL_law_1046 : decode cL_law 1046 = .ok (.iaload, 1) := by decide +kernel
theorem dL_law_1047 : decode cL_law 1047 = .ok (.invokevirtual 141, 3) := by decide +kernel
theorem dL_law_1050 : decode cL_law 1050 = .ok (.if_icmp .eq 97, 3) := by decide +kernel
theorem dL_law_1053 : decode cL_law 1053 = .ok (.iconst 0, 1) := by decide +kernel
theorem dL_law_1054 : decode cL_law 1054 = .ok (.ireturn, 1) := by decide +kernel
theorem dL_law_1055 : decode cL_law 1055 = .ok (.aload_n 1, 1) := by decide +kernel
theorem dL_law_1056 : decode cL_law 1056 = .ok (.aload_n 0, 1) := by decide +kernel
theorem dL_law_1057 : decode cL_law 1057 = .ok (.iload_n 3, 1) := by decide +kernel
theorem dL_law_1058 : decode cL_law 1058 = .ok (.iconst 1, 1) := by decide +kernel
theorem dL_law_1059 : decode cL_law 1059 = .ok (.iadd, 1) := by decide +kernel
theorem dL_law_1060 : decode cL_law 1060 = .ok (.iaload, 1) := by decide +kernel
theorem dL_law_1061 : decode cL_law 1061 = .ok (.aload_n 0, 1) := by decide +kernel
theorem dL_law_1062 : decode cL_law 1062 = .ok (.iload_n 3, 1) := by decide +kernel
theorem dL_law_1063 : decode cL_law 1063 = .ok (.iconst 2, 1) := by decide +kernel
theorem dL_law_1064 : decode cL_law 1064 = .ok (.iadd, 1) := by decide +kernel
theorem dL_law_1065 : decode cL_law 1065 = .ok (.iaload, 1) := by decide +kernel
theorem dL_law_1066 : decode cL_law 1066 = .ok (.invokevirtual 142, 3) := by decide +kernel
theorem dL_law_1069 : decode cL_law 1069 = .ok (.aload_n 2, 1) := by decide +kernel
theorem dL_law_1070 : decode cL_law 1070 = .ok (.aload_n 0, 1) := by decide +kernel
theorem dL_law_1071 : decode cL_law 1071 = .ok (.iload_n 3, 1) := by decide +kernel
theorem dL_law_1072 : decode cL_law 1072 = .ok (.iconst 1, 1) := by decide +kernel
theorem dL_law_1073 : decode cL_law 1073 = .ok (.iadd, 1) := by decide +kernel
theorem dL_law_1074 : decode cL_law 1074 = .ok (.iaload, 1) := by decide +kernel
theorem dL_law_1075 : decode cL_law 1075 = .ok (.aload_n 0, 1) := by decide +kernel
theorem dL_law_1076 : decode cL_law 1076 = .ok (.iload_n 3, 1) := by decide +kernel
theorem dL_law_1077 : decode cL_law 1077 = .ok (.iconst 2, 1) := by decide +kernel
theorem dL_law_1078 : decode cL_law 1078 = .ok (.iadd, 1) := by decide +kernel
theorem dL_law_1079 : decode cL_law 1079 = .ok (.iaload, 1) := by decide +kernel
theorem dL_law_1080 : decode cL_law 1080 = .ok (.invokevirtual 145, 3) := by decide +kernel
theorem dL_law_1083 : decode cL_law 1083 = .ok (.if_icmp .eq 64, 3) := by decide +kernel
theorem dL_law_1086 : decode cL_law 1086 = .ok (.iconst 0, 1) := by decide +kernel
theorem dL_law_1087 : decode cL_law 1087 = .ok (.ireturn, 1) := by decide +kernel
theorem dL_law_1088 : decode cL_law 1088 = .ok (.aload_n 1, 1) := by decide +kernel
theorem dL_law_1089 : decode cL_law 1089 = .ok (.aload_n 0, 1) := by decide +kernel
theorem dL_law_1090 : decode cL_law 1090 = .ok (.iload_n 3, 1) := by decide +kernel
theorem dL_law_1091 : decode cL_law 1091 = .ok (.iconst 1, 1) := by decide +kernel
theorem dL_law_1092 : decode cL_law 1092 = .ok (.iadd, 1) := by decide +kernel
theorem dL_law_1093 : decode cL_law 1093 = .ok (.iaload, 1) := by decide +kernel
theorem dL_law_1094 : decode cL_law 1094 = .ok (.aload_n 0, 1) := by decide +kernel
theorem dL_law_1095 : decode cL_law 1095 = .ok (.iload_n 3, 1) := by decide +kernel
theorem dL_law_1096 : decode cL_law 1096 = .ok (.iconst 2, 1) := by decide +kernel
theorem dL_law_1097 : decode cL_law 1097 = .ok (.iadd, 1) := by decide +kernel
theorem dL_law_1098 : decode cL_law 1098 = .ok (.iaload, 1) := by decide +kernel
theorem dL_law_1099 : decode cL_law 1099 = .ok (.invokevirtual 146, 3) := by decide +kernel
theorem dL_law_1102 : decode cL_law 1102 = .ok (.aload_n 2, 1) := by decide +kernel
theorem dL_law_1103 : decode cL_law 1103 = .ok (.aload_n 0, 1) := by decide +kernel
theorem dL_law_1104 : decode cL_law 1104 = .ok (.iload_n 3, 1) := by decide +kernel
theorem dL_law_1105 : decode cL_law 1105 = .ok (.iconst 1, 1) := by decide +kernel
theorem dL_law_1106 : decode cL_law 1106 = .ok (.iadd, 1) := by decide +kernel
theorem dL_law_1107 : decode cL_law 1107 = .ok (.iaload, 1) := by decide +kernel
theorem dL_law_1108 : decode cL_law 1108 = .ok (.aload_n 0, 1) := by decide +kernel
theorem dL_law_1109 : decode cL_law 1109 = .ok (.iload_n 3, 1) := by decide +kernel
theorem dL_law_1110 : decode cL_law 1110 = .ok (.iconst 2, 1) := by decide +kernel
theorem dL_law_1111 : decode cL_law 1111 = .ok (.iadd, 1) := by decide +kernel
theorem dL_law_1112 : decode cL_law 1112 = .ok (.iaload, 1) := by decide +kernel
theorem dL_law_1113 : decode cL_law 1113 = .ok (.invokevirtual 149, 3) := by decide +kernel
theorem dL_law_1116 : decode cL_law 1116 = .ok (.if_icmp .eq 31, 3) := by decide +kernel
theorem dL_law_1119 : decode cL_law 1119 = .ok (.iconst 0, 1) := by decide +kernel
theorem dL_law_1120 : decode cL_law 1120 = .ok (.ireturn, 1) := by decide +kernel
theorem dL_law_1121 : decode cL_law 1121 = .ok (.aload_n 1, 1) := by decide +kernel
theorem dL_law_1122 : decode cL_law 1122 = .ok (.invokevirtual 150, 3) := by decide +kernel
theorem dL_law_1125 : decode cL_law 1125 = .ok (.aload_n 2, 1) := by decide +kernel
theorem dL_law_1126 : decode cL_law 1126 = .ok (.invokevirtual 153, 3) := by decide +kernel
theorem dL_law_1129 : decode cL_law 1129 = .ok (.if_icmp .eq 18, 3) := by decide +kernel
theorem dL_law_1132 : decode cL_law 1132 = .ok (.iconst 0, 1) := by decide +kernel
theorem dL_law_1133 : decode cL_law 1133 = .ok (.ireturn, 1) := by decide +kernel
theorem dL_law_1134 : decode cL_law 1134 = .ok (.aload_n 1, 1) := by decide +kernel
theorem dL_law_1135 : decode cL_law 1135 = .ok (.invokevirtual 154, 3) := by decide +kernel
theorem dL_law_1138 : decode cL_law 1138 = .ok (.aload_n 2, 1) := by decide +kernel
theorem dL_law_1139 : decode cL_law 1139 = .ok (.invokevirtual 157, 3) := by decide +kernel
theorem dL_law_1142 : decode cL_law 1142 = .ok (.if_icmp .eq 5, 3) := by decide +kernel
theorem dL_law_1145 : decode cL_law 1145 = .ok (.iconst 0, 1) := by decide +kernel
theorem dL_law_1146 : decode cL_law 1146 = .ok (.ireturn, 1) := by decide +kernel
theorem dL_law_1147 : decode cL_law 1147 = .ok (.iinc 3 6, 3) := by decide +kernel
theorem dL_law_1150 : decode cL_law 1150 = .ok (.goto (-1132), 3) := by decide +kernel
theorem dL_law_1153 : decode cL_law 1153 = .ok (.iconst 1, 1) := by decide +kernel
theorem dL_law_1154 : decode cL_law 1154 = .ok (.ireturn, 1) := by decide +kernel
end
section
/-! rules in the forms in which the walks use them -/
def bi (p : Bool) : Int32 := if p then 1 else 0
theorem bi_t : bi true = 1 := rfl
theorem bi_f : bi false = 0 := rfl
theorem bi_eq0 {p : Bool} : bi p = 0 ↔ p = false := by cases p <;> simp [bi]
theorem bi_01 (p : Bool) : bi p = 0 ∨ bi p = 1 := by cases p <;> simp [bi]
theorem bi_dec {p : Bool} {x : Int32} (h : x = 0 ∨ x = 1) (hp : p = decide (x = 1)) : x = bi p := by subst hp; rcases h with rfl | rfl <;> rfl
theorem lgc_lt {x y : Int64} : lg_cmp x y < 0 ↔ x < y := by
  unfold lg_cmp
  split
  · next h => constructor
              · intro h2; exact absurd h2 (by decide)
              · intro h2; exact absurd h2 (lg_lt_not h)
  · next h => split
              · next h3 => subst h3; simp
              · next h3 => constructor
                           · intro _
                             have : x.toInt ≠ y.toInt := fun e => h3 (Int64.toInt_inj.mp e)
                             simp only [gt_iff_lt, Int64.lt_iff_toInt_lt] at h ⊢
                             omega
                           · intro _; decide
theorem lgc_gt {x y : Int64} : 0 < lg_cmp x y ↔ y < x := by
  unfold lg_cmp
  split
  · next h => exact ⟨fun _ => h, fun _ => by decide⟩
  · next h => split
              · exact ⟨fun h2 => absurd h2 (by decide), fun h2 => absurd h2 h⟩
              · exact ⟨fun h2 => absurd h2 (by decide), fun h2 => absurd h2 h⟩
theorem lgc_eq {x y : Int64} : lg_cmp x y = 0 ↔ x = y := by
  unfold lg_cmp
  split
  · next h => exact ⟨fun h2 => absurd h2 (by decide), fun h2 => absurd h2.symm (lg_lt_ne h)⟩
  · next h => split
              · next h3 => exact ⟨fun _ => h3, fun _ => rfl⟩
              · next h3 => exact ⟨fun h2 => absurd h2 (by decide), fun h2 => absurd h2 h3⟩
theorem lgc_ge {x y : Int64} : 0 ≤ lg_cmp x y ↔ ¬ x < y := by rw [← lgc_lt, Int32.not_lt]
theorem lgc_le {x y : Int64} : lg_cmp x y ≤ 0 ↔ ¬ y < x := by rw [← lgc_gt, Int32.not_lt]
section PW
variable {B : Nat} {D : va_G} {d : Nat} {μ : pm_M} {pc : Nat} {ls : pm_Ls} {st : List Value} {h : pm_H} {n w : Nat} {f : Nat → Option va_E} {r : Option Value} {h1 : pm_H}
theorem px_ifb_eq {p : Bool} {off : Int} {tgt : Nat} (hd : decode μ.2.1 pc = .ok (.ifCond .eq off, 3)) (ht : (pc : Int) + off = (tgt : Int)) (kt : p = false → EX B D d μ tgt ls st h r h1) (kf : p = true → EX B D d μ (pc + 3) ls st h r h1) : EX B D d μ pc ls (.int (bi p) :: st) h r h1 :=
  px_if_eq hd ht (fun hc => kt (bi_eq0.mp hc)) (fun hc => kf (by cases p with | false => exact absurd rfl hc | true => rfl))
theorem px_ifb_ne {p : Bool} {off : Int} {tgt : Nat} (hd : decode μ.2.1 pc = .ok (.ifCond .ne off, 3)) (ht : (pc : Int) + off = (tgt : Int)) (kt : p = true → EX B D d μ tgt ls st h r h1) (kf : p = false → EX B D d μ (pc + 3) ls st h r h1) : EX B D d μ pc ls (.int (bi p) :: st) h r h1 :=
  px_if_ne hd ht (fun hc => kt (by cases p with | false => exact absurd rfl hc | true => rfl)) (fun hc => kf (bi_eq0.mp hc))
theorem px_l_eq {x y : Int64} {off : Int} {tgt : Nat} (hd0 : decode μ.2.1 pc = .ok (.lcmp, 1)) (hd : decode μ.2.1 (pc + 1) = .ok (.ifCond .eq off, 3)) (ht : ((pc + 1 : Nat) : Int) + off = (tgt : Int)) (kt : x = y → EX B D d μ tgt ls st h r h1) (kf : ¬ x = y → EX B D d μ (pc + 1 + 3) ls st h r h1) : EX B D d μ pc ls (.long y :: .long x :: st) h r h1 :=
  px_lcmp hd0 (px_if_eq hd ht (fun hc => kt (lgc_eq.mp hc)) (fun hc => (kf (fun h => hc (lgc_eq.mpr h)))))
theorem px_l_lt {x y : Int64} {off : Int} {tgt : Nat} (hd0 : decode μ.2.1 pc = .ok (.lcmp, 1)) (hd : decode μ.2.1 (pc + 1) = .ok (.ifCond .lt off, 3)) (ht : ((pc + 1 : Nat) : Int) + off = (tgt : Int)) (kt : x < y → EX B D d μ tgt ls st h r h1) (kf : ¬ x < y → EX B D d μ (pc + 1 + 3) ls st h r h1) : EX B D d μ pc ls (.long y :: .long x :: st) h r h1 :=
  px_lcmp hd0 (px_if_lt hd ht (fun hc => kt (lgc_lt.mp hc)) (fun hc => (kf (fun h => hc (lgc_lt.mpr h)))))
theorem px_l_gt {x y : Int64} {off : Int} {tgt : Nat} (hd0 : decode μ.2.1 pc = .ok (.lcmp, 1)) (hd : decode μ.2.1 (pc + 1) = .ok (.ifCond .gt off, 3)) (ht : ((pc + 1 : Nat) : Int) + off = (tgt : Int)) (kt : y < x → EX B D d μ tgt ls st h r h1) (kf : ¬ y < x → EX B D d μ (pc + 1 + 3) ls st h r h1) : EX B D d μ pc ls (.long y :: .long x :: st) h r h1 :=
  px_lcmp hd0 (px_if_gt hd ht (fun hc => kt (lgc_gt.mp hc)) (fun hc => (kf (fun h => hc (lgc_gt.mpr h)))))
theorem px_l_ge {x y : Int64} {off : Int} {tgt : Nat} (hd0 : decode μ.2.1 pc = .ok (.lcmp, 1)) (hd : decode μ.2.1 (pc + 1) = .ok (.ifCond .ge off, 3)) (ht : ((pc + 1 : Nat) : Int) + off = (tgt : Int)) (kt : ¬ x < y → EX B D d μ tgt ls st h r h1) (kf : x < y → EX B D d μ (pc + 1 + 3) ls st h r h1) : EX B D d μ pc ls (.long y :: .long x :: st) h r h1 :=
  px_lcmp hd0 (px_if_ge hd ht (fun hc => kt (lgc_ge.mp hc)) (fun hc => (kf (Decidable.not_not.mp (fun h => hc (lgc_ge.mpr h))))))
theorem px_l_le {x y : Int64} {off : Int} {tgt : Nat} (hd0 : decode μ.2.1 pc = .ok (.lcmp, 1)) (hd : decode μ.2.1 (pc + 1) = .ok (.ifCond .le off, 3)) (ht : ((pc + 1 : Nat) : Int) + off = (tgt : Int)) (kt : ¬ y < x → EX B D d μ tgt ls st h r h1) (kf : y < x → EX B D d μ (pc + 1 + 3) ls st h r h1) : EX B D d μ pc ls (.long y :: .long x :: st) h r h1 :=
  px_lcmp hd0 (px_if_le hd ht (fun hc => kt (lgc_le.mp hc)) (fun hc => (kf (Decidable.not_not.mp (fun h => hc (lgc_le.mpr h))))))
theorem px_l_ne {x y : Int64} {off : Int} {tgt : Nat} (hd0 : decode μ.2.1 pc = .ok (.lcmp, 1)) (hd : decode μ.2.1 (pc + 1) = .ok (.ifCond .ne off, 3)) (ht : ((pc + 1 : Nat) : Int) + off = (tgt : Int)) (kt : ¬ x = y → EX B D d μ tgt ls st h r h1) (kf : x = y → EX B D d μ (pc + 1 + 3) ls st h r h1) : EX B D d μ pc ls (.long y :: .long x :: st) h r h1 :=
  px_lcmp hd0 (px_if_ne hd ht (fun hc => kt (fun h => hc (lgc_eq.mpr h))) (fun hc => kf (lgc_eq.mp hc)))
theorem px_reti {v : Int32} (hd : decode μ.2.1 pc = .ok (pm_ret μ.2.2.2, 1)) (hr : r = some (.int v)) (hh : h1 = h) : EX B D d μ pc ls [.int v] h r h1 := by
  subst hr; subst hh; obtain ⟨n, w, f⟩ := h1; exact px_ret rfl hd
theorem px_retl {v : Int64} (hd : decode μ.2.1 pc = .ok (pm_ret μ.2.2.2, 1)) (hr : r = some (.long v)) (hh : h1 = h) : EX B D d μ pc ls [.long v] h r h1 := by
  subst hr; subst hh; obtain ⟨n, w, f⟩ := h1; exact px_ret rfl hd
theorem px_reta {v : Value} (hd : decode μ.2.1 pc = .ok (pm_ret μ.2.2.2, 1)) (hr : r = some v) (hh : h1 = h) : EX B D d μ pc ls [v] h r h1 := by
  subst hr; subst hh; obtain ⟨n, w, f⟩ := h1; exact px_ret rfl hd
theorem px_retv (hd : decode μ.2.1 pc = .ok (pm_ret μ.2.2.2, 1)) (hr : r = none) (hh : h1 = h) : EX B D d μ pc ls [] h r h1 := by
  subst hr; subst hh; obtain ⟨n, w, f⟩ := h1; exact px_ret rfl hd
/-- the joined road: a condition's two roads that come to one place -/
theorem px_eqst {st' : List Value} (he : st = st') (kk : EX B D d μ pc ls st' h r h1) : EX B D d μ pc ls st h r h1 := he ▸ kk
end PW
section PC
variable {B : Nat} {D : va_G} {d : Nat} {μ : pm_M} {pc : Nat} {ls : pm_Ls} {st : List Value} {n w : Nat} {f : Nat → Option va_E} {r : Option Value} {h1 : pm_H}
theorem px_callV1 {ν : pm_M} {i ci b k d1 : Nat} {q : vw_C} {fs : List Value} {As sk : List Value} {v : Value} {h2 : pm_H} (hq0 : pm_cl[ci]? = some q) (hqc : q.1 = ν.1.cls) (hl : Cond.methodLink μ.1.cls i ν.1 ∈ pm_gw) (hin : Cond.instanceMethod ν.1 ∈ pm_gw) (hse : Cond.selects ν.1.cls ν.1 ν.1 ∈ pm_gw) (hν : pm_mok ν k) (hd : decode μ.2.1 pc = .ok (.invokevirtual i, 3)) (hC : CT B D d1 ν (.ref b :: As) (n, w, f) (some v) h2) (hb : f b = some (.inr (ci, fs))) (hk : As.length = k) (hsk : sk = As.reverse ++ .ref b :: st) (hdd : d1 + 1 ≤ d) (hst : st.length ≤ 4) (kk : EX B D d μ (pc + 3) ls (v :: st) h2 r h1) : EX B D d μ pc ls sk (n, w, f) r h1 :=
  px_callV hq0 hqc hl hin hse hν hd hC hb hk hsk hdd hst kk
theorem px_callV0 {ν : pm_M} {i ci b k d1 : Nat} {q : vw_C} {fs : List Value} {As sk : List Value} {h2 : pm_H} (hq0 : pm_cl[ci]? = some q) (hqc : q.1 = ν.1.cls) (hl : Cond.methodLink μ.1.cls i ν.1 ∈ pm_gw) (hin : Cond.instanceMethod ν.1 ∈ pm_gw) (hse : Cond.selects ν.1.cls ν.1 ν.1 ∈ pm_gw) (hν : pm_mok ν k) (hd : decode μ.2.1 pc = .ok (.invokevirtual i, 3)) (hC : CT B D d1 ν (.ref b :: As) (n, w, f) none h2) (hb : f b = some (.inr (ci, fs))) (hk : As.length = k) (hsk : sk = As.reverse ++ .ref b :: st) (hdd : d1 + 1 ≤ d) (hst : st.length ≤ 4) (kk : EX B D d μ (pc + 3) ls st h2 r h1) : EX B D d μ pc ls sk (n, w, f) r h1 :=
  px_callV hq0 hqc hl hin hse hν hd hC hb hk hsk hdd hst kk
theorem px_callS1 {ν : pm_M} {i k d1 : Nat} {As sk : List Value} {v : Value} {h2 : pm_H} (hl : Cond.methodLink μ.1.cls i ν.1 ∈ pm_gw) (hstt : Cond.static ν.1 ∈ pm_gw) (hν : pm_mok ν k) (hd : decode μ.2.1 pc = .ok (.invokestatic i, 3)) (hC : CT B D d1 ν As (n, w, f) (some v) h2) (hk : As.length = k) (hsk : sk = As.reverse ++ st) (hdd : d1 + 1 ≤ d) (hst : st.length ≤ 4) (kk : EX B D d μ (pc + 3) ls (v :: st) h2 r h1) : EX B D d μ pc ls sk (n, w, f) r h1 :=
  px_callS hl hstt hν hd hC hk hsk hdd hst kk
theorem px_callS0 {ν : pm_M} {i k d1 : Nat} {As sk : List Value} {h2 : pm_H} (hl : Cond.methodLink μ.1.cls i ν.1 ∈ pm_gw) (hstt : Cond.static ν.1 ∈ pm_gw) (hν : pm_mok ν k) (hd : decode μ.2.1 pc = .ok (.invokestatic i, 3)) (hC : CT B D d1 ν As (n, w, f) none h2) (hk : As.length = k) (hsk : sk = As.reverse ++ st) (hdd : d1 + 1 ≤ d) (hst : st.length ≤ 4) (kk : EX B D d μ (pc + 3) ls st h2 r h1) : EX B D d μ pc ls sk (n, w, f) r h1 :=
  px_callS hl hstt hν hd hC hk hsk hdd hst kk
theorem px_callSN1 {ν : pm_M} {i k d1 : Nat} {As sk : List Value} {v : Value} {h2 : pm_H} (hl : pm_lkN μ.1.cls i ν.1) (hstt : Cond.static ν.1 ∈ pm_gw) (hν : pm_mok ν k) (hd : decode μ.2.1 pc = .ok (.invokestatic i, 3)) (hC : CT B D d1 ν As (n, w, f) (some v) h2) (hk : As.length = k) (hsk : sk = As.reverse ++ st) (hdd : d1 + 1 ≤ d) (hst : st.length ≤ 4) (kk : EX B D d μ (pc + 3) ls (v :: st) h2 r h1) : EX B D d μ pc ls sk (n, w, f) r h1 :=
  px_callSN hl hstt hν hd hC hk hsk hdd hst kk
theorem px_callSN0 {ν : pm_M} {i k d1 : Nat} {As sk : List Value} {h2 : pm_H} (hl : pm_lkN μ.1.cls i ν.1) (hstt : Cond.static ν.1 ∈ pm_gw) (hν : pm_mok ν k) (hd : decode μ.2.1 pc = .ok (.invokestatic i, 3)) (hC : CT B D d1 ν As (n, w, f) none h2) (hk : As.length = k) (hsk : sk = As.reverse ++ st) (hdd : d1 + 1 ≤ d) (hst : st.length ≤ 4) (kk : EX B D d μ (pc + 3) ls st h2 r h1) : EX B D d μ pc ls sk (n, w, f) r h1 :=
  px_callSN hl hstt hν hd hC hk hsk hdd hst kk
theorem px_copyi {i a0 a1 m0 m1 : Nat} {g0 g1 : Nat → Int32} {sp dp k : Int32} (hl : Cond.methodLink μ.1.cls i arraycopyName ∈ pm_gw) (hd : decode μ.2.1 pc = .ok (.invokestatic i, 3)) (ha0 : f a0 = some (.inl (0, m0, .inl g0))) (ha1 : f a1 = some (.inl (0, m1, .inl g1))) (hs1 : ¬ sp < 0) (hs2 : ¬ dp < 0) (hs3 : ¬ k < 0) (hs4 : sp.toNatClampNeg + k.toNatClampNeg ≤ m0) (hs5 : dp.toNatClampNeg + k.toNatClampNeg ≤ m1) (hd0 : 1 ≤ d) (hst : st.length ≤ 4)
    (kk : EX B D d μ (pc + 3) ls st (n, w, va_up f a1 (some (.inl (0, m1, .inl (va_cpy g0 g1 sp.toNatClampNeg dp.toNatClampNeg k.toNatClampNeg))))) r h1) : EX B D d μ pc ls (.int k :: .int dp :: .ref a1 :: .int sp :: .ref a0 :: st) (n, w, f) r h1 := by
  refine ⟨kk.1, fun p l e R s m args below meth c H locs lsA n0 w0 Q cx hl' hR hlo e1 e2 e3 e4 hq => ?_⟩
  have hts := cx.2.2.2.2.2.1
  have h8 := pm_rest4 hst
  have hR1 := cx.2.2.2.2.2.2.2.2.2.1
  have hR2 := cx.2.2.2.2.2.2.2.2.2.2
  obtain ⟨hBa0, c0, hA0, hRA0, hc0⟩ := pm_arr (hR.2.2 a0 _ ha0) (by decide)
  obtain ⟨hBa1, c1, hA1, hRA1, hc1⟩ := pm_arr (hR.2.2 a1 _ ha1) (by decide)
  obtain ⟨-, k0, hk0, cm0, hkk0⟩ := hA0 m0 (fun j => .int (g0 j))
  obtain ⟨-, k1, hk1, cm1, hkk1⟩ := hA1 m1 (fun j => .int (g1 j))
  have nn : ∀ z : Int32, ¬ z < 0 → z.toInt = (z.toNatClampNeg : Int) := by
    intro z hz
    have hz0 : (0 : Int) ≤ z.toInt := by
      have := Int32.not_lt.mp hz
      simpa using Int32.le_iff_toInt_le.mp this
    show z.toInt = ((z.toInt.toNat : Nat) : Int)
    omega
  intro T hT X
  obtain ⟨vm', X', step⟩ := X.arraycopy cx.1 cx.2.2.2.2.1 (hts _ hl) (hts _ nat_copy) (hts _ st_copy) (hts _ ini_RJ10) (src := a0) (dst := a1) (cs := vp_cell c0 (m0, .inl g0)) (cd := vp_cell c1 (m1, .inl g1)) (srcPos := sp) (destPos := dp) (n := k) (by rw [hT]; exact hc0) (by rw [hT]; exact hc1)
    (fun _ h => by cases h) (fun _ h => by cases h) (fun h => by cases h) (fun h => by cases h) hk0 hk1 hkk0 hkk1 (by rfl) hs1 hs2 hs3
    (by rw [nn sp hs1, nn k hs3]; show ¬ _ > ((arrV c0 m0 (fun j => .int (g0 j))).slots.size : Int); rw [arrV_size]; omega)
    (by rw [nn dp hs2, nn k hs3]; show ¬ _ > ((arrV c1 m1 (fun j => .int (g1 j))).slots.size : Int); rw [arrV_size]; omega)
    (fun vm₁ _ i hi => by
      have e : (vp_cell c0 (m0, .inl g0)).slots.getD (sp.toNatClampNeg + i) .null = .int (g0 (sp.toNatClampNeg + i)) := by
        show (arrV c0 m0 (fun j => .int (g0 j))).slots.getD _ _ = _
        rw [Array.getD_eq_getD_getElem?, arrV_read _ _ (by omega)]
        rfl
      refine ⟨?_, ?_⟩
      · rw [e]
        rfl
      · rw [e]
        exact trivial)
    (g := F0 m pc lsA (.int k :: .int dp :: .ref a1 :: .int sp :: .ref a0 :: st)) rfl (by rw [cx.2.2.2.1]; exact hl'.1) (rest := st) rfl (by rw [cx.2.1]; exact hd) (by omega) (by show 2 * 0 + _ + (7 + 11) ≤ _; omega)
  have e5 : copied (vp_cell c0 (m0, .inl g0)) (vp_cell c1 (m1, .inl g1)) sp dp k = vp_cell c1 (m1, .inl (va_cpy g0 g1 sp.toNatClampNeg dp.toNatClampNeg k.toNatClampNeg)) := va_copied (fun z => .int z) c0 c1 g0 g1 hs4
  rw [e5] at X' step
  have hl2 : a1 < H.size := (Array.getElem?_eq_some_iff.mp hc1).1
  have hheap : ((T.setVm vm').setCell a1 (vp_cell c1 (m1, .inl (va_cpy g0 g1 sp.toNatClampNeg dp.toNatClampNeg k.toNatClampNeg)))).heap = H.setIfInBounds a1 (vp_cell c1 (m1, .inl (va_cpy g0 g1 sp.toNatClampNeg dp.toNatClampNeg k.toNatClampNeg))) := by rw [← hT]; rfl
  have oq : ∀ q : Nat, q ≠ a1 → (H.setIfInBounds a1 (vp_cell c1 (m1, .inl (va_cpy g0 g1 sp.toNatClampNeg dp.toNatClampNeg k.toNatClampNeg))))[q]? = H[q]? := fun q hq => by simp [Array.getElem?_setIfInBounds, Ne.symm hq]
  obtain ⟨t, b1, b2⟩ := kk.2 p l e R s m args below meth c _ _ lsA n0 w0 Q cx hl' (hR.set (pm_arr' (by decide) ⟨hBa1, c1, hA1, hRA1, (show (H.setIfInBounds a1 _)[a1]? = some _ by simp [Array.getElem?_setIfInBounds, hl2])⟩) (by simp) oq) (fun q hq => by
      rcases List.mem_append.mp hq with h | h
      · exact hlo q h
      · obtain ⟨z, -, hz⟩ := List.mem_map.mp h
        rw [← hz]
        exact hBa1) e1 e2 e3 e4 hq _ hheap X'
  exact ⟨t, step t b1, b2⟩
theorem px_copyl {i a0 a1 m0 m1 : Nat} {g0 g1 : Nat → Int64} {sp dp k : Int32} (hl : Cond.methodLink μ.1.cls i arraycopyName ∈ pm_gw) (hd : decode μ.2.1 pc = .ok (.invokestatic i, 3)) (ha0 : f a0 = some (.inl (1, m0, .inr (.inl g0)))) (ha1 : f a1 = some (.inl (1, m1, .inr (.inl g1)))) (hs1 : ¬ sp < 0) (hs2 : ¬ dp < 0) (hs3 : ¬ k < 0) (hs4 : sp.toNatClampNeg + k.toNatClampNeg ≤ m0) (hs5 : dp.toNatClampNeg + k.toNatClampNeg ≤ m1) (hd0 : 1 ≤ d) (hst : st.length ≤ 4)
    (kk : EX B D d μ (pc + 3) ls st (n, w, va_up f a1 (some (.inl (1, m1, .inr (.inl (va_cpy g0 g1 sp.toNatClampNeg dp.toNatClampNeg k.toNatClampNeg)))))) r h1) : EX B D d μ pc ls (.int k :: .int dp :: .ref a1 :: .int sp :: .ref a0 :: st) (n, w, f) r h1 := by
  refine ⟨kk.1, fun p l e R s m args below meth c H locs lsA n0 w0 Q cx hl' hR hlo e1 e2 e3 e4 hq => ?_⟩
  have hts := cx.2.2.2.2.2.1
  have h8 := pm_rest4 hst
  have hR1 := cx.2.2.2.2.2.2.2.2.2.1
  have hR2 := cx.2.2.2.2.2.2.2.2.2.2
  obtain ⟨hBa0, c0, hA0, hRA0, hc0⟩ := pm_arr (hR.2.2 a0 _ ha0) (by decide)
  obtain ⟨hBa1, c1, hA1, hRA1, hc1⟩ := pm_arr (hR.2.2 a1 _ ha1) (by decide)
  obtain ⟨-, k0, hk0, cm0, hkk0⟩ := hA0 m0 (fun j => .long (g0 j))
  obtain ⟨-, k1, hk1, cm1, hkk1⟩ := hA1 m1 (fun j => .long (g1 j))
  have nn : ∀ z : Int32, ¬ z < 0 → z.toInt = (z.toNatClampNeg : Int) := by
    intro z hz
    have hz0 : (0 : Int) ≤ z.toInt := by
      have := Int32.not_lt.mp hz
      simpa using Int32.le_iff_toInt_le.mp this
    show z.toInt = ((z.toInt.toNat : Nat) : Int)
    omega
  intro T hT X
  obtain ⟨vm', X', step⟩ := X.arraycopy cx.1 cx.2.2.2.2.1 (hts _ hl) (hts _ nat_copy) (hts _ st_copy) (hts _ ini_RJ10) (src := a0) (dst := a1) (cs := vp_cell c0 (m0, .inr (.inl g0))) (cd := vp_cell c1 (m1, .inr (.inl g1))) (srcPos := sp) (destPos := dp) (n := k) (by rw [hT]; exact hc0) (by rw [hT]; exact hc1)
    (fun _ h => by cases h) (fun _ h => by cases h) (fun h => by cases h) (fun h => by cases h) hk0 hk1 hkk0 hkk1 (by rfl) hs1 hs2 hs3
    (by rw [nn sp hs1, nn k hs3]; show ¬ _ > ((arrV c0 m0 (fun j => .long (g0 j))).slots.size : Int); rw [arrV_size]; omega)
    (by rw [nn dp hs2, nn k hs3]; show ¬ _ > ((arrV c1 m1 (fun j => .long (g1 j))).slots.size : Int); rw [arrV_size]; omega)
    (fun vm₁ _ i hi => by
      have e : (vp_cell c0 (m0, .inr (.inl g0))).slots.getD (sp.toNatClampNeg + i) .null = .long (g0 (sp.toNatClampNeg + i)) := by
        show (arrV c0 m0 (fun j => .long (g0 j))).slots.getD _ _ = _
        rw [Array.getD_eq_getD_getElem?, arrV_read _ _ (by omega)]
        rfl
      refine ⟨?_, ?_⟩
      · rw [e]
        rfl
      · rw [e]
        exact trivial)
    (g := F0 m pc lsA (.int k :: .int dp :: .ref a1 :: .int sp :: .ref a0 :: st)) rfl (by rw [cx.2.2.2.1]; exact hl'.1) (rest := st) rfl (by rw [cx.2.1]; exact hd) (by omega) (by show 2 * 0 + _ + (7 + 11) ≤ _; omega)
  have e5 : copied (vp_cell c0 (m0, .inr (.inl g0))) (vp_cell c1 (m1, .inr (.inl g1))) sp dp k = vp_cell c1 (m1, .inr (.inl (va_cpy g0 g1 sp.toNatClampNeg dp.toNatClampNeg k.toNatClampNeg))) := va_copied (fun z => .long z) c0 c1 g0 g1 hs4
  rw [e5] at X' step
  have hl2 : a1 < H.size := (Array.getElem?_eq_some_iff.mp hc1).1
  have hheap : ((T.setVm vm').setCell a1 (vp_cell c1 (m1, .inr (.inl (va_cpy g0 g1 sp.toNatClampNeg dp.toNatClampNeg k.toNatClampNeg))))).heap = H.setIfInBounds a1 (vp_cell c1 (m1, .inr (.inl (va_cpy g0 g1 sp.toNatClampNeg dp.toNatClampNeg k.toNatClampNeg)))) := by rw [← hT]; rfl
  have oq : ∀ q : Nat, q ≠ a1 → (H.setIfInBounds a1 (vp_cell c1 (m1, .inr (.inl (va_cpy g0 g1 sp.toNatClampNeg dp.toNatClampNeg k.toNatClampNeg)))))[q]? = H[q]? := fun q hq => by simp [Array.getElem?_setIfInBounds, Ne.symm hq]
  obtain ⟨t, b1, b2⟩ := kk.2 p l e R s m args below meth c _ _ lsA n0 w0 Q cx hl' (hR.set (pm_arr' (by decide) ⟨hBa1, c1, hA1, hRA1, (show (H.setIfInBounds a1 _)[a1]? = some _ by simp [Array.getElem?_setIfInBounds, hl2])⟩) (by simp) oq) (fun q hq => by
      rcases List.mem_append.mp hq with h | h
      · exact hlo q h
      · obtain ⟨z, -, hz⟩ := List.mem_map.mp h
        rw [← hz]
        exact hBa1) e1 e2 e3 e4 hq _ hheap X'
  exact ⟨t, step t b1, b2⟩
end PC
end
section
/-! references that may be null -/
theorem rf_none : va_rf none = .null := rfl
theorem rf_some (a : Nat) : va_rf (some a) = .ref a := rfl
theorem cat_rf (q : Option Nat) : (va_rf q).category = 1 := by cases q <;> rfl
theorem nl_rf (q : Option Nat) : pm_nl (some (va_rf q)) = true := by cases q <;> rfl
theorem rok_rf (C : String) (q : Option Nat) : pm_rok (some (.object C)) (some (va_rf q)) := by cases q <;> trivial
section PQ
variable {B : Nat} {D : va_G} {d : Nat} {μ : pm_M} {pc : Nat} {ls : pm_Ls} {st : List Value} {h : pm_H} {r : Option Value} {h1 : pm_H}
theorem px_aload_nQ {k : Fin 4} {q : Option Nat} (hd : decode μ.2.1 pc = .ok (.aload_n k, 1)) (hv : ls[(k : Nat)]? = some (some (va_rf q))) (kk : EX B D d μ (pc + 1) ls (va_rf q :: st) h r h1) : EX B D d μ pc ls st h r h1 := by
  cases q with
  | none => exact px_aload_nN hd hv kk
  | some a => exact px_aload_n hd hv kk
theorem px_aloadQ {i : Nat} {q : Option Nat} (hd : decode μ.2.1 pc = .ok (.aload i, 2)) (hv : ls[i]? = some (some (va_rf q))) (kk : EX B D d μ (pc + 2) ls (va_rf q :: st) h r h1) : EX B D d μ pc ls st h r h1 := by
  cases q with
  | none => exact px_aloadN hd hv kk
  | some a => exact px_aload hd hv kk
theorem px_ifnull_Q {q : Option Nat} {off : Int} {tgt : Nat} (hd : decode μ.2.1 pc = .ok (.ifnull off, 3)) (ht : (pc : Int) + off = (tgt : Int)) (kt : q = none → EX B D d μ tgt ls st h r h1) (kf : ∀ a, q = some a → EX B D d μ (pc + 3) ls st h r h1) : EX B D d μ pc ls (va_rf q :: st) h r h1 := by
  cases q with
  | none => exact px_ifnull_t hd ht (kt rfl)
  | some a => exact px_ifnull_f hd (kf a rfl)
theorem px_ifnonnull_Q {q : Option Nat} {off : Int} {tgt : Nat} (hd : decode μ.2.1 pc = .ok (.ifnonnull off, 3)) (ht : (pc : Int) + off = (tgt : Int)) (kt : ∀ a, q = some a → EX B D d μ tgt ls st h r h1) (kf : q = none → EX B D d μ (pc + 3) ls st h r h1) : EX B D d μ pc ls (va_rf q :: st) h r h1 := by
  cases q with
  | none => exact px_ifnonnull_f hd (kf rfl)
  | some a => exact px_ifnonnull_t hd ht (kt a rfl)
theorem px_astoreQ0 {c : Option Value} {t : pm_Ls} {q : Option Nat} (hd : decode μ.2.1 pc = .ok (.astore_n 0, 1)) (kk : EX B D d μ (pc + 1) (some (va_rf q) :: t) st h r h1) : EX B D d μ pc (c :: t) (va_rf q :: st) h r h1 := by
  cases q with
  | none => exact px_astoreN0 hd kk
  | some a => exact px_astore0 hd kk
theorem px_astoreQ1 {a0 : Option Value} {c : Option Value} {t : pm_Ls} {q : Option Nat} (hb : pm_nl a0 = true) (hd : decode μ.2.1 pc = .ok (.astore_n 1, 1)) (kk : EX B D d μ (pc + 1) (a0 :: some (va_rf q) :: t) st h r h1) : EX B D d μ pc (a0 :: c :: t) (va_rf q :: st) h r h1 := by
  cases q with
  | none => exact px_astoreN1 hb hd kk
  | some a => exact px_astore1 hb hd kk
theorem px_astoreQ2 {a0 a1 : Option Value} {c : Option Value} {t : pm_Ls} {q : Option Nat} (hb : pm_nl a1 = true) (hd : decode μ.2.1 pc = .ok (.astore_n 2, 1)) (kk : EX B D d μ (pc + 1) (a0 :: a1 :: some (va_rf q) :: t) st h r h1) : EX B D d μ pc (a0 :: a1 :: c :: t) (va_rf q :: st) h r h1 := by
  cases q with
  | none => exact px_astoreN2 hb hd kk
  | some a => exact px_astore2 hb hd kk
theorem px_astoreQ3 {a0 a1 a2 : Option Value} {c : Option Value} {t : pm_Ls} {q : Option Nat} (hb : pm_nl a2 = true) (hd : decode μ.2.1 pc = .ok (.astore_n 3, 1)) (kk : EX B D d μ (pc + 1) (a0 :: a1 :: a2 :: some (va_rf q) :: t) st h r h1) : EX B D d μ pc (a0 :: a1 :: a2 :: c :: t) (va_rf q :: st) h r h1 := by
  cases q with
  | none => exact px_astoreN3 hb hd kk
  | some a => exact px_astore3 hb hd kk
theorem px_astoreQ4 {a0 a1 a2 a3 : Option Value} {c : Option Value} {t : pm_Ls} {q : Option Nat} (hb : pm_nl a3 = true) (hd : decode μ.2.1 pc = .ok (.astore 4, 2)) (kk : EX B D d μ (pc + 2) (a0 :: a1 :: a2 :: a3 :: some (va_rf q) :: t) st h r h1) : EX B D d μ pc (a0 :: a1 :: a2 :: a3 :: c :: t) (va_rf q :: st) h r h1 := by
  cases q with
  | none => exact px_astoreN4 hb hd kk
  | some a => exact px_astore4 hb hd kk
theorem px_astoreQ5 {a0 a1 a2 a3 a4 : Option Value} {c : Option Value} {t : pm_Ls} {q : Option Nat} (hb : pm_nl a4 = true) (hd : decode μ.2.1 pc = .ok (.astore 5, 2)) (kk : EX B D d μ (pc + 2) (a0 :: a1 :: a2 :: a3 :: a4 :: some (va_rf q) :: t) st h r h1) : EX B D d μ pc (a0 :: a1 :: a2 :: a3 :: a4 :: c :: t) (va_rf q :: st) h r h1 := by
  cases q with
  | none => exact px_astoreN5 hb hd kk
  | some a => exact px_astore5 hb hd kk
theorem px_astoreQ6 {a0 a1 a2 a3 a4 a5 : Option Value} {c : Option Value} {t : pm_Ls} {q : Option Nat} (hb : pm_nl a5 = true) (hd : decode μ.2.1 pc = .ok (.astore 6, 2)) (kk : EX B D d μ (pc + 2) (a0 :: a1 :: a2 :: a3 :: a4 :: a5 :: some (va_rf q) :: t) st h r h1) : EX B D d μ pc (a0 :: a1 :: a2 :: a3 :: a4 :: a5 :: c :: t) (va_rf q :: st) h r h1 := by
  cases q with
  | none => exact px_astoreN6 hb hd kk
  | some a => exact px_astore6 hb hd kk
theorem px_astoreQ7 {a0 a1 a2 a3 a4 a5 a6 : Option Value} {c : Option Value} {t : pm_Ls} {q : Option Nat} (hb : pm_nl a6 = true) (hd : decode μ.2.1 pc = .ok (.astore 7, 2)) (kk : EX B D d μ (pc + 2) (a0 :: a1 :: a2 :: a3 :: a4 :: a5 :: a6 :: some (va_rf q) :: t) st h r h1) : EX B D d μ pc (a0 :: a1 :: a2 :: a3 :: a4 :: a5 :: a6 :: c :: t) (va_rf q :: st) h r h1 := by
  cases q with
  | none => exact px_astoreN7 hb hd kk
  | some a => exact px_astore7 hb hd kk
theorem px_astoreQ8 {a0 a1 a2 a3 a4 a5 a6 a7 : Option Value} {c : Option Value} {t : pm_Ls} {q : Option Nat} (hb : pm_nl a7 = true) (hd : decode μ.2.1 pc = .ok (.astore 8, 2)) (kk : EX B D d μ (pc + 2) (a0 :: a1 :: a2 :: a3 :: a4 :: a5 :: a6 :: a7 :: some (va_rf q) :: t) st h r h1) : EX B D d μ pc (a0 :: a1 :: a2 :: a3 :: a4 :: a5 :: a6 :: a7 :: c :: t) (va_rf q :: st) h r h1 := by
  cases q with
  | none => exact px_astoreN8 hb hd kk
  | some a => exact px_astore8 hb hd kk
theorem px_astoreQ9 {a0 a1 a2 a3 a4 a5 a6 a7 a8 : Option Value} {c : Option Value} {t : pm_Ls} {q : Option Nat} (hb : pm_nl a8 = true) (hd : decode μ.2.1 pc = .ok (.astore 9, 2)) (kk : EX B D d μ (pc + 2) (a0 :: a1 :: a2 :: a3 :: a4 :: a5 :: a6 :: a7 :: a8 :: some (va_rf q) :: t) st h r h1) : EX B D d μ pc (a0 :: a1 :: a2 :: a3 :: a4 :: a5 :: a6 :: a7 :: a8 :: c :: t) (va_rf q :: st) h r h1 := by
  cases q with
  | none => exact px_astoreN9 hb hd kk
  | some a => exact px_astore9 hb hd kk
theorem px_mmax {i : Nat} {x y : Int32} (hl : Cond.methodLink μ.1.cls i yJ9_max_7cf53 ∈ pm_gw) (hd0 : 1 ≤ d) (hst : st.length ≤ 4) (hd : decode μ.2.1 pc = .ok (.invokestatic i, 3)) (kk : EX B D d μ (pc + 3) ls (.int (if x < y then y else x) :: st) h r h1) : EX B D d μ pc ls (.int y :: .int x :: st) h r h1 := by
  refine ⟨kk.1, fun p l e R s m args below meth c H locs lsA n0 w0 Q cx hl' hR hlo e1 e2 e3 e4 hq => ?_⟩
  have hts := cx.2.2.2.2.2.1
  have h8 := pm_rest4 hst
  have hR1 := cx.2.2.2.2.2.2.2.2.2.1
  have hR2 := cx.2.2.2.2.2.2.2.2.2.2
  have hm := kk.1
  have hcode : (Cond.code Lib.Math.max.name Lib.Math.max.code 2 (some .int)).before args s = true := hts _ co_J9_max_7cf53
  exact va_mmax cx.1 cx.2.1 (by rw [cx.2.2.2.1]; exact hl'.1.symm) cx.2.2.2.2.1 (hts _ hl) (hts _ st_J9_max_7cf53) (hts _ ini_RJ9) hcode (by omega) (by omega) (by omega) (by omega) hd (kk.2 p l e R s m args below meth c H locs lsA n0 w0 Q cx hl' hR hlo e1 e2 e3 e4 hq)
theorem px_mmin {i : Nat} {x y : Int32} (hl : Cond.methodLink μ.1.cls i yJ9_min_7cf53 ∈ pm_gw) (hd0 : 1 ≤ d) (hst : st.length ≤ 4) (hd : decode μ.2.1 pc = .ok (.invokestatic i, 3)) (kk : EX B D d μ (pc + 3) ls (.int (if y < x then y else x) :: st) h r h1) : EX B D d μ pc ls (.int y :: .int x :: st) h r h1 := by
  refine ⟨kk.1, fun p l e R s m args below meth c H locs lsA n0 w0 Q cx hl' hR hlo e1 e2 e3 e4 hq => ?_⟩
  have hts := cx.2.2.2.2.2.1
  have h8 := pm_rest4 hst
  have hR1 := cx.2.2.2.2.2.2.2.2.2.1
  have hR2 := cx.2.2.2.2.2.2.2.2.2.2
  have hm := kk.1
  have hcode : (Cond.code Lib.Math.min.name Lib.Math.min.code 2 (some .int)).before args s = true := hts _ co_J9_min_7cf53
  exact va_mmin cx.1 cx.2.1 (by rw [cx.2.2.2.1]; exact hl'.1.symm) cx.2.2.2.2.1 (hts _ hl) (hts _ st_J9_min_7cf53) (hts _ ini_RJ9) hcode (by omega) (by omega) (by omega) (by omega) hd (kk.2 p l e R s m args below meth c H locs lsA n0 w0 Q cx hl' hR hlo e1 e2 e3 e4 hq)
end PQ
theorem pl_X0 : plainName RX0 = true := by decide +kernel
theorem pl_X1 : plainName RX1 = true := by decide +kernel
theorem pl_X2 : plainName RX2 = true := by decide +kernel
theorem pl_X3 : plainName RX3 = true := by decide +kernel
theorem pl_X4 : plainName RX4 = true := by decide +kernel
theorem pl_X5 : plainName RX5 = true := by decide +kernel
theorem pl_X6 : plainName RX6 = true := by decide +kernel
theorem pl_X7 : plainName RX7 = true := by decide +kernel
theorem pl_J7 : plainName RJ7 = true := by decide +kernel
end
section
/-! small functions -/
theorem nar_rf (C : String) (q : Option Nat) : narrow (.object C) (va_rf q) = va_rf q := by cases q <;> rfl
theorem fit_rf (C : String) (q : Option Nat) : fits (.object C) (va_rf q) = true := by cases q <;> rfl
def s_isInput (k : Int32) : Bool := !decide (k < 0) && !decide (8 ≤ k)
def s_isTarget (k : Int32) : Bool := !decide (k < 8) && !decide (24 ≤ k)
def s_isKey (k : Int32) : Bool := !decide (k < 0) && !decide (24 ≤ k)
def s_isContent (v : Int64) : Bool := !decide (v < (-1000000)) && !decide (1000000 < v)
def s_isStops (k : Int32) : Bool := decide (k = 0) || decide (k = 1)
def s_asks (k : Int32) : Bool := decide (k = 43) || decide (k = 45) || decide (k = 42) || decide (k = 47) || decide (k = 38)
def s_isSign (k : Int32) : Bool := s_asks k || decide (k = 61) || decide (k = 37) || decide (k = 33) || decide (k = 63) || decide (k = 94)
def s_isFigure (k : Int32) : Bool := !decide (k < 48) && !decide (57 < k)
def s_isInL (v lo hi : Int64) : Bool := !decide (v < lo) && !decide (hi < v)
def s_bitOf (k : Int32) : Int32 := if s_isTarget k then (1 : Int32) <<< ((k - 8) &&& 31) else 0
def s_isIn (set k : Int32) : Bool := !decide (set &&& s_bitOf k = 0)
def s_worked (sg : Int32) (v b : Int64) : Int64 := if sg = 43 then v + b else if sg = 45 then v - b else if sg = 42 then v * b else if sg = 47 then (if b = 0 then v else v / b) else if sg = 37 then (if b = 0 then v else v - v / b * b) else if sg = 38 then b else if sg = 61 then b else v
def s_fsort (sg : Int32) (v b x : Int64) : Int32 := if (sg = 47 ∨ sg = 37) ∧ b = 0 then 2 else if sg = 33 ∧ b < v then 4 else if s_isContent x then 0 else 3
def s_pass (sg : Int32) (v : Int64) (k : Int32) : Int32 := if (sg = 63 ∧ v = 0) ∨ (sg = 94 ∧ v < 0) then k else 0
theorem sw_cases (x : Int32) (lo : Int) (m : Nat) : x.toInt < lo ∨ lo + m ≤ x.toInt ∨ ∃ j : Nat, j < m ∧ x.toInt = lo + j := by
  by_cases h : x.toInt < lo
  · exact Or.inl h
  · by_cases h2 : lo + m ≤ x.toInt
    · exact Or.inr (Or.inl h2)
    · exact Or.inr (Or.inr ⟨(x.toInt - lo).toNat, by omega, by omega⟩)
section M10
variable {B : Nat} {D : va_G} {n w : Nat} {f : Nat → Option va_E}
theorem c_X6_isInput (k : Int32) : CT B D 0 mX6_isInput [.int k] (n, w, f) (some (.int (bi (s_isInput k)))) (n, w, f) := by
  refine CT.of [some (.int k)] rfl (Nat.le_of_ble_eq_true rfl) pl_X6 (bi_01 _) ?_
  refine px_iload_n dX6_isInput_0 rfl ?_
  refine px_if_lt (tgt := 14) dX6_isInput_1 (by decide) (fun hc1 => ?_) (fun hc1 => ?_)
  · refine px_iconst (v := 0) dX6_isInput_14 (by decide) ?_
    exact px_reti dX6_isInput_15 (by first | (simp [s_isInput, bi, *]; done) | (simp_all [s_isInput, bi]; done)) (by rfl)
  · refine px_iload_n dX6_isInput_4 rfl ?_
    refine px_bipush (v := 8) dX6_isInput_5 (by decide) ?_
    refine px_icmp_ge (tgt := 14) dX6_isInput_7 (by decide) (fun hc7 => ?_) (fun hc7 => ?_)
    · refine px_iconst (v := 0) dX6_isInput_14 (by decide) ?_
      exact px_reti dX6_isInput_15 (by first | (simp [s_isInput, bi, *]; done) | (simp_all [s_isInput, bi]; done)) (by rfl)
    · refine px_iconst (v := 1) dX6_isInput_10 (by decide) ?_
      refine px_goto (tgt := 15) dX6_isInput_11 (by decide) ?_
      exact px_reti dX6_isInput_15 (by first | (simp [s_isInput, bi, *]; done) | (simp_all [s_isInput, bi]; done)) (by rfl)

theorem c_X6_isTarget (k : Int32) : CT B D 0 mX6_isTarget [.int k] (n, w, f) (some (.int (bi (s_isTarget k)))) (n, w, f) := by
  refine CT.of [some (.int k)] rfl (Nat.le_of_ble_eq_true rfl) pl_X6 (bi_01 _) ?_
  refine px_iload_n dX6_isTarget_0 rfl ?_
  refine px_bipush (v := 8) dX6_isTarget_1 (by decide) ?_
  refine px_icmp_lt (tgt := 16) dX6_isTarget_3 (by decide) (fun hc3 => ?_) (fun hc3 => ?_)
  · refine px_iconst (v := 0) dX6_isTarget_16 (by decide) ?_
    exact px_reti dX6_isTarget_17 (by first | (simp [s_isTarget, bi, *]; done) | (simp_all [s_isTarget, bi]; done)) (by rfl)
  · refine px_iload_n dX6_isTarget_6 rfl ?_
    refine px_bipush (v := 24) dX6_isTarget_7 (by decide) ?_
    refine px_icmp_ge (tgt := 16) dX6_isTarget_9 (by decide) (fun hc9 => ?_) (fun hc9 => ?_)
    · refine px_iconst (v := 0) dX6_isTarget_16 (by decide) ?_
      exact px_reti dX6_isTarget_17 (by first | (simp [s_isTarget, bi, *]; done) | (simp_all [s_isTarget, bi]; done)) (by rfl)
    · refine px_iconst (v := 1) dX6_isTarget_12 (by decide) ?_
      refine px_goto (tgt := 17) dX6_isTarget_13 (by decide) ?_
      exact px_reti dX6_isTarget_17 (by first | (simp [s_isTarget, bi, *]; done) | (simp_all [s_isTarget, bi]; done)) (by rfl)

theorem c_X6_isKey (k : Int32) : CT B D 0 mX6_isKey [.int k] (n, w, f) (some (.int (bi (s_isKey k)))) (n, w, f) := by
  refine CT.of [some (.int k)] rfl (Nat.le_of_ble_eq_true rfl) pl_X6 (bi_01 _) ?_
  refine px_iload_n dX6_isKey_0 rfl ?_
  refine px_if_lt (tgt := 14) dX6_isKey_1 (by decide) (fun hc1 => ?_) (fun hc1 => ?_)
  · refine px_iconst (v := 0) dX6_isKey_14 (by decide) ?_
    exact px_reti dX6_isKey_15 (by first | (simp [s_isKey, bi, *]; done) | (simp_all [s_isKey, bi]; done)) (by rfl)
  · refine px_iload_n dX6_isKey_4 rfl ?_
    refine px_bipush (v := 24) dX6_isKey_5 (by decide) ?_
    refine px_icmp_ge (tgt := 14) dX6_isKey_7 (by decide) (fun hc7 => ?_) (fun hc7 => ?_)
    · refine px_iconst (v := 0) dX6_isKey_14 (by decide) ?_
      exact px_reti dX6_isKey_15 (by first | (simp [s_isKey, bi, *]; done) | (simp_all [s_isKey, bi]; done)) (by rfl)
    · refine px_iconst (v := 1) dX6_isKey_10 (by decide) ?_
      refine px_goto (tgt := 15) dX6_isKey_11 (by decide) ?_
      exact px_reti dX6_isKey_15 (by first | (simp [s_isKey, bi, *]; done) | (simp_all [s_isKey, bi]; done)) (by rfl)

theorem c_X6_isContent (v : Int64) : CT B D 0 mX6_isContent [.long v] (n, w, f) (some (.int (bi (s_isContent v)))) (n, w, f) := by
  refine CT.of [some (.long v), none] rfl (Nat.le_of_ble_eq_true rfl) pl_X6 (bi_01 _) ?_
  refine px_lload_n dX6_isContent_0 rfl ?_
  refine px_ldc2 dX6_isContent_1 kc_X6_271 ?_
  refine px_l_lt (tgt := 20) dX6_isContent_4 dX6_isContent_5 (by decide) (fun hc5 => ?_) (fun hc5 => ?_)
  · refine px_iconst (v := 0) dX6_isContent_20 (by decide) ?_
    exact px_reti dX6_isContent_21 (by first | (simp [s_isContent, bi, *]; done) | (simp_all [s_isContent, bi]; done)) (by rfl)
  · refine px_lload_n dX6_isContent_8 rfl ?_
    refine px_ldc2 dX6_isContent_9 kc_X6_273 ?_
    refine px_l_gt (tgt := 20) dX6_isContent_12 dX6_isContent_13 (by decide) (fun hc13 => ?_) (fun hc13 => ?_)
    · refine px_iconst (v := 0) dX6_isContent_20 (by decide) ?_
      exact px_reti dX6_isContent_21 (by first | (simp [s_isContent, bi, *]; done) | (simp_all [s_isContent, bi]; done)) (by rfl)
    · refine px_iconst (v := 1) dX6_isContent_16 (by decide) ?_
      refine px_goto (tgt := 21) dX6_isContent_17 (by decide) ?_
      exact px_reti dX6_isContent_21 (by first | (simp [s_isContent, bi, *]; done) | (simp_all [s_isContent, bi]; done)) (by rfl)

theorem c_X6_isStops (k : Int32) : CT B D 0 mX6_isStops [.int k] (n, w, f) (some (.int (bi (s_isStops k)))) (n, w, f) := by
  refine CT.of [some (.int k)] rfl (Nat.le_of_ble_eq_true rfl) pl_X6 (bi_01 _) ?_
  refine px_iload_n dX6_isStops_0 rfl ?_
  refine px_if_eq (tgt := 9) dX6_isStops_1 (by decide) (fun hc1 => ?_) (fun hc1 => ?_)
  · refine px_iconst (v := 1) dX6_isStops_9 (by decide) ?_
    refine px_goto (tgt := 14) dX6_isStops_10 (by decide) ?_
    exact px_reti dX6_isStops_14 (by first | (simp [s_isStops, bi, *]; done) | (simp_all [s_isStops, bi]; done)) (by rfl)
  · refine px_iload_n dX6_isStops_4 rfl ?_
    refine px_iconst (v := 1) dX6_isStops_5 (by decide) ?_
    refine px_icmp_ne (tgt := 13) dX6_isStops_6 (by decide) (fun hc6 => ?_) (fun hc6 => ?_)
    · refine px_iconst (v := 0) dX6_isStops_13 (by decide) ?_
      exact px_reti dX6_isStops_14 (by first | (simp [s_isStops, bi, *]; done) | (simp_all [s_isStops, bi]; done)) (by rfl)
    · refine px_iconst (v := 1) dX6_isStops_9 (by decide) ?_
      refine px_goto (tgt := 14) dX6_isStops_10 (by decide) ?_
      exact px_reti dX6_isStops_14 (by first | (simp [s_isStops, bi, *]; done) | (simp_all [s_isStops, bi]; done)) (by rfl)

theorem c_X6_asksForKey (k : Int32) : CT B D 0 mX6_asksForKey [.int k] (n, w, f) (some (.int (bi (s_asks k)))) (n, w, f) := by
  refine CT.of [some (.int k)] rfl (Nat.le_of_ble_eq_true rfl) pl_X6 (bi_01 _) ?_
  refine px_iload_n dX6_asksForKey_0 rfl ?_
  refine px_bipush (v := 43) dX6_asksForKey_1 (by decide) ?_
  refine px_icmp_eq (tgt := 30) dX6_asksForKey_3 (by decide) (fun hc3 => ?_) (fun hc3 => ?_)
  · refine px_iconst (v := 1) dX6_asksForKey_30 (by decide) ?_
    refine px_goto (tgt := 35) dX6_asksForKey_31 (by decide) ?_
    exact px_reti dX6_asksForKey_35 (by first | (simp [s_asks, bi, *]; done) | (simp_all [s_asks, bi]; done)) (by rfl)
  · refine px_iload_n dX6_asksForKey_6 rfl ?_
    refine px_bipush (v := 45) dX6_asksForKey_7 (by decide) ?_
    refine px_icmp_eq (tgt := 30) dX6_asksForKey_9 (by decide) (fun hc9 => ?_) (fun hc9 => ?_)
    · refine px_iconst (v := 1) dX6_asksForKey_30 (by decide) ?_
      refine px_goto (tgt := 35) dX6_asksForKey_31 (by decide) ?_
      exact px_reti dX6_asksForKey_35 (by first | (simp [s_asks, bi, *]; done) | (simp_all [s_asks, bi]; done)) (by rfl)
    · refine px_iload_n dX6_asksForKey_12 rfl ?_
      refine px_bipush (v := 42) dX6_asksForKey_13 (by decide) ?_
      refine px_icmp_eq (tgt := 30) dX6_asksForKey_15 (by decide) (fun hc15 => ?_) (fun hc15 => ?_)
      · refine px_iconst (v := 1) dX6_asksForKey_30 (by decide) ?_
        refine px_goto (tgt := 35) dX6_asksForKey_31 (by decide) ?_
        exact px_reti dX6_asksForKey_35 (by first | (simp [s_asks, bi, *]; done) | (simp_all [s_asks, bi]; done)) (by rfl)
      · refine px_iload_n dX6_asksForKey_18 rfl ?_
        refine px_bipush (v := 47) dX6_asksForKey_19 (by decide) ?_
        refine px_icmp_eq (tgt := 30) dX6_asksForKey_21 (by decide) (fun hc21 => ?_) (fun hc21 => ?_)
        · refine px_iconst (v := 1) dX6_asksForKey_30 (by decide) ?_
          refine px_goto (tgt := 35) dX6_asksForKey_31 (by decide) ?_
          exact px_reti dX6_asksForKey_35 (by first | (simp [s_asks, bi, *]; done) | (simp_all [s_asks, bi]; done)) (by rfl)
        · refine px_iload_n dX6_asksForKey_24 rfl ?_
          refine px_bipush (v := 38) dX6_asksForKey_25 (by decide) ?_
          refine px_icmp_ne (tgt := 34) dX6_asksForKey_27 (by decide) (fun hc27 => ?_) (fun hc27 => ?_)
          · refine px_iconst (v := 0) dX6_asksForKey_34 (by decide) ?_
            exact px_reti dX6_asksForKey_35 (by first | (simp [s_asks, bi, *]; done) | (simp_all [s_asks, bi]; done)) (by rfl)
          · refine px_iconst (v := 1) dX6_asksForKey_30 (by decide) ?_
            refine px_goto (tgt := 35) dX6_asksForKey_31 (by decide) ?_
            exact px_reti dX6_asksForKey_35 (by first | (simp [s_asks, bi, *]; done) | (simp_all [s_asks, bi]; done)) (by rfl)

theorem c_X6_isSign (k : Int32) : CT B D 1 mX6_isSign [.int k] (n, w, f) (some (.int (bi (s_isSign k)))) (n, w, f) := by
  refine CT.of [some (.int k)] rfl (Nat.le_of_ble_eq_true rfl) pl_X6 (bi_01 _) ?_
  refine px_iload_n dX6_isSign_0 rfl ?_
  refine px_callS1 (ν := mX6_asksForKey) lk_X6_275 st_X6_asksForKey mok_X6_asksForKey dX6_isSign_1 (c_X6_asksForKey k) rfl rfl (by omega) (by simp) ?_
  refine px_ifb_ne (tgt := 37) dX6_isSign_4 (by decide) (fun hc4 => ?_) (fun hc4 => ?_)
  · refine px_iconst (v := 1) dX6_isSign_37 (by decide) ?_
    refine px_goto (tgt := 42) dX6_isSign_38 (by decide) ?_
    exact px_reti dX6_isSign_42 (by first | (simp [s_isSign, bi, *]; done) | (simp_all [s_isSign, bi]; done)) (by rfl)
  · refine px_iload_n dX6_isSign_7 rfl ?_
    refine px_bipush (v := 61) dX6_isSign_8 (by decide) ?_
    refine px_icmp_eq (tgt := 37) dX6_isSign_10 (by decide) (fun hc10 => ?_) (fun hc10 => ?_)
    · refine px_iconst (v := 1) dX6_isSign_37 (by decide) ?_
      refine px_goto (tgt := 42) dX6_isSign_38 (by decide) ?_
      exact px_reti dX6_isSign_42 (by first | (simp [s_isSign, bi, *]; done) | (simp_all [s_isSign, bi]; done)) (by rfl)
    · refine px_iload_n dX6_isSign_13 rfl ?_
      refine px_bipush (v := 37) dX6_isSign_14 (by decide) ?_
      refine px_icmp_eq (tgt := 37) dX6_isSign_16 (by decide) (fun hc16 => ?_) (fun hc16 => ?_)
      · refine px_iconst (v := 1) dX6_isSign_37 (by decide) ?_
        refine px_goto (tgt := 42) dX6_isSign_38 (by decide) ?_
        exact px_reti dX6_isSign_42 (by first | (simp [s_isSign, bi, *]; done) | (simp_all [s_isSign, bi]; done)) (by rfl)
      · refine px_iload_n dX6_isSign_19 rfl ?_
        refine px_bipush (v := 33) dX6_isSign_20 (by decide) ?_
        refine px_icmp_eq (tgt := 37) dX6_isSign_22 (by decide) (fun hc22 => ?_) (fun hc22 => ?_)
        · refine px_iconst (v := 1) dX6_isSign_37 (by decide) ?_
          refine px_goto (tgt := 42) dX6_isSign_38 (by decide) ?_
          exact px_reti dX6_isSign_42 (by first | (simp [s_isSign, bi, *]; done) | (simp_all [s_isSign, bi]; done)) (by rfl)
        · refine px_iload_n dX6_isSign_25 rfl ?_
          refine px_bipush (v := 63) dX6_isSign_26 (by decide) ?_
          refine px_icmp_eq (tgt := 37) dX6_isSign_28 (by decide) (fun hc28 => ?_) (fun hc28 => ?_)
          · refine px_iconst (v := 1) dX6_isSign_37 (by decide) ?_
            refine px_goto (tgt := 42) dX6_isSign_38 (by decide) ?_
            exact px_reti dX6_isSign_42 (by first | (simp [s_isSign, bi, *]; done) | (simp_all [s_isSign, bi]; done)) (by rfl)
          · refine px_iload_n dX6_isSign_31 rfl ?_
            refine px_bipush (v := 94) dX6_isSign_32 (by decide) ?_
            refine px_icmp_ne (tgt := 41) dX6_isSign_34 (by decide) (fun hc34 => ?_) (fun hc34 => ?_)
            · refine px_iconst (v := 0) dX6_isSign_41 (by decide) ?_
              exact px_reti dX6_isSign_42 (by first | (simp [s_isSign, bi, *]; done) | (simp_all [s_isSign, bi]; done)) (by rfl)
            · refine px_iconst (v := 1) dX6_isSign_37 (by decide) ?_
              refine px_goto (tgt := 42) dX6_isSign_38 (by decide) ?_
              exact px_reti dX6_isSign_42 (by first | (simp [s_isSign, bi, *]; done) | (simp_all [s_isSign, bi]; done)) (by rfl)

theorem c_X6_isFigure (k : Int32) : CT B D 0 mX6_isFigure [.int k] (n, w, f) (some (.int (bi (s_isFigure k)))) (n, w, f) := by
  refine CT.of [some (.int k)] rfl (Nat.le_of_ble_eq_true rfl) pl_X6 (bi_01 _) ?_
  refine px_iload_n dX6_isFigure_0 rfl ?_
  refine px_bipush (v := 48) dX6_isFigure_1 (by decide) ?_
  refine px_icmp_lt (tgt := 16) dX6_isFigure_3 (by decide) (fun hc3 => ?_) (fun hc3 => ?_)
  · refine px_iconst (v := 0) dX6_isFigure_16 (by decide) ?_
    exact px_reti dX6_isFigure_17 (by first | (simp [s_isFigure, bi, *]; done) | (simp_all [s_isFigure, bi]; done)) (by rfl)
  · refine px_iload_n dX6_isFigure_6 rfl ?_
    refine px_bipush (v := 57) dX6_isFigure_7 (by decide) ?_
    refine px_icmp_gt (tgt := 16) dX6_isFigure_9 (by decide) (fun hc9 => ?_) (fun hc9 => ?_)
    · refine px_iconst (v := 0) dX6_isFigure_16 (by decide) ?_
      exact px_reti dX6_isFigure_17 (by first | (simp [s_isFigure, bi, *]; done) | (simp_all [s_isFigure, bi]; done)) (by rfl)
    · refine px_iconst (v := 1) dX6_isFigure_12 (by decide) ?_
      refine px_goto (tgt := 17) dX6_isFigure_13 (by decide) ?_
      exact px_reti dX6_isFigure_17 (by first | (simp [s_isFigure, bi, *]; done) | (simp_all [s_isFigure, bi]; done)) (by rfl)

theorem c_X0_bitOf (k : Int32) : CT B D 1 mX0_bitOf [.int k] (n, w, f) (some (.int (s_bitOf k))) (n, w, f) := by
  refine CT.of [some (.int k)] rfl (Nat.le_of_ble_eq_true rfl) pl_X0 trivial ?_
  refine px_iload_n dX0_bitOf_0 rfl ?_
  refine px_callSN1 (ν := mX6_isTarget) lk_X0_178 st_X6_isTarget mok_X6_isTarget dX0_bitOf_1 (c_X6_isTarget k) rfl rfl (by omega) (by simp) ?_
  refine px_ifb_eq (tgt := 16) dX0_bitOf_4 (by decide) (fun hc4 => ?_) (fun hc4 => ?_)
  · refine px_iconst (v := 0) dX0_bitOf_16 (by decide) ?_
    exact px_reti dX0_bitOf_17 (by first | (simp [s_bitOf, bi, *]; done) | (simp_all [s_bitOf, bi]; done)) (by rfl)
  · refine px_iconst (v := 1) dX0_bitOf_7 (by decide) ?_
    refine px_iload_n dX0_bitOf_8 rfl ?_
    refine px_bipush (v := 8) dX0_bitOf_9 (by decide) ?_
    refine px_isub dX0_bitOf_11 ?_
    refine px_ishl dX0_bitOf_12 ?_
    refine px_goto (tgt := 17) dX0_bitOf_13 (by decide) ?_
    exact px_reti dX0_bitOf_17 (by first | (simp [s_bitOf, bi, *]; done) | (simp_all [s_bitOf, bi]; done)) (by rfl)

theorem c_X0_isIn (a k : Int32) : CT B D 2 mX0_isIn [.int a, .int k] (n, w, f) (some (.int (bi (s_isIn a k)))) (n, w, f) := by
  refine CT.of [some (.int a), some (.int k)] rfl (Nat.le_of_ble_eq_true rfl) pl_X0 (bi_01 _) ?_
  refine px_iload_n dX0_isIn_0 rfl ?_
  refine px_iload_n dX0_isIn_1 rfl ?_
  refine px_callS1 (ν := mX0_bitOf) lk_X0_38 st_X0_bitOf mok_X0_bitOf dX0_isIn_2 (c_X0_bitOf k) rfl rfl (by omega) (by simp) ?_
  refine px_iand dX0_isIn_5 ?_
  refine px_if_eq (tgt := 13) dX0_isIn_6 (by decide) (fun hc6 => ?_) (fun hc6 => ?_)
  · refine px_iconst (v := 0) dX0_isIn_13 (by decide) ?_
    exact px_reti dX0_isIn_14 (by first | (simp [s_isIn, bi, *]; done) | (simp_all [s_isIn, bi]; done)) (by rfl)
  · refine px_iconst (v := 1) dX0_isIn_9 (by decide) ?_
    refine px_goto (tgt := 14) dX0_isIn_10 (by decide) ?_
    exact px_reti dX0_isIn_14 (by first | (simp [s_isIn, bi, *]; done) | (simp_all [s_isIn, bi]; done)) (by rfl)

theorem c_X0_failingSort (a : Int32) (v b x : Int64) : CT B D 1 mX0_failingSort [.int a, .long v, .long b, .long x] (n, w, f) (some (.int (s_fsort a v b x))) (n, w, f) := by
  refine CT.of [some (.int a), some (.long v), none, some (.long b), none, some (.long x), none] rfl (Nat.le_of_ble_eq_true rfl) pl_X0 trivial ?_
  refine px_iload_n dX0_failingSort_0 rfl ?_
  refine px_bipush (v := 47) dX0_failingSort_1 (by decide) ?_
  refine px_icmp_eq (tgt := 12) dX0_failingSort_3 (by decide) (fun hc3 => ?_) (fun hc3 => ?_)
  · refine px_lload_n dX0_failingSort_12 rfl ?_
    refine px_lconst (v := 0) dX0_failingSort_13 (by decide) ?_
    refine px_l_ne (tgt := 20) dX0_failingSort_14 dX0_failingSort_15 (by decide) (fun hc15 => ?_) (fun hc15 => ?_)
    · refine px_iload_n dX0_failingSort_20 rfl ?_
      refine px_bipush (v := 33) dX0_failingSort_21 (by decide) ?_
      refine px_icmp_ne (tgt := 34) dX0_failingSort_23 (by decide) (fun hc23 => ?_) (fun hc23 => ?_)
      · refine px_lload dX0_failingSort_34 rfl ?_
        refine px_callSN1 (ν := mX6_isContent) lk_X0_181 st_X6_isContent mok_X6_isContent dX0_failingSort_36 (c_X6_isContent x) rfl rfl (by omega) (by simp) ?_
        refine px_ifb_eq (tgt := 46) dX0_failingSort_39 (by decide) (fun hc39 => ?_) (fun hc39 => ?_)
        · refine px_iconst (v := 3) dX0_failingSort_46 (by decide) ?_
          exact px_reti dX0_failingSort_47 (by first | (simp [s_fsort, bi, *]; done) | (simp_all [s_fsort, bi]; done)) (by rfl)
        · refine px_iconst (v := 0) dX0_failingSort_42 (by decide) ?_
          refine px_goto (tgt := 47) dX0_failingSort_43 (by decide) ?_
          exact px_reti dX0_failingSort_47 (by first | (simp [s_fsort, bi, *]; done) | (simp_all [s_fsort, bi]; done)) (by rfl)
      · refine px_lload_n dX0_failingSort_26 rfl ?_
        refine px_lload_n dX0_failingSort_27 rfl ?_
        refine px_l_le (tgt := 34) dX0_failingSort_28 dX0_failingSort_29 (by decide) (fun hc29 => ?_) (fun hc29 => ?_)
        · refine px_lload dX0_failingSort_34 rfl ?_
          refine px_callSN1 (ν := mX6_isContent) lk_X0_181 st_X6_isContent mok_X6_isContent dX0_failingSort_36 (c_X6_isContent x) rfl rfl (by omega) (by simp) ?_
          refine px_ifb_eq (tgt := 46) dX0_failingSort_39 (by decide) (fun hc39 => ?_) (fun hc39 => ?_)
          · refine px_iconst (v := 3) dX0_failingSort_46 (by decide) ?_
            exact px_reti dX0_failingSort_47 (by first | (simp [s_fsort, bi, *]; done) | (simp_all [s_fsort, bi]; done)) (by rfl)
          · refine px_iconst (v := 0) dX0_failingSort_42 (by decide) ?_
            refine px_goto (tgt := 47) dX0_failingSort_43 (by decide) ?_
            exact px_reti dX0_failingSort_47 (by first | (simp [s_fsort, bi, *]; done) | (simp_all [s_fsort, bi]; done)) (by rfl)
        · refine px_iconst (v := 4) dX0_failingSort_32 (by decide) ?_
          exact px_reti dX0_failingSort_33 (by first | (simp [s_fsort, bi, *]; done) | (simp_all [s_fsort, bi]; done)) (by rfl)
    · refine px_iconst (v := 2) dX0_failingSort_18 (by decide) ?_
      exact px_reti dX0_failingSort_19 (by first | (simp [s_fsort, bi, *]; done) | (simp_all [s_fsort, bi]; done)) (by rfl)
  · refine px_iload_n dX0_failingSort_6 rfl ?_
    refine px_bipush (v := 37) dX0_failingSort_7 (by decide) ?_
    refine px_icmp_ne (tgt := 20) dX0_failingSort_9 (by decide) (fun hc9 => ?_) (fun hc9 => ?_)
    · refine px_iload_n dX0_failingSort_20 rfl ?_
      refine px_bipush (v := 33) dX0_failingSort_21 (by decide) ?_
      refine px_icmp_ne (tgt := 34) dX0_failingSort_23 (by decide) (fun hc23 => ?_) (fun hc23 => ?_)
      · refine px_lload dX0_failingSort_34 rfl ?_
        refine px_callSN1 (ν := mX6_isContent) lk_X0_181 st_X6_isContent mok_X6_isContent dX0_failingSort_36 (c_X6_isContent x) rfl rfl (by omega) (by simp) ?_
        refine px_ifb_eq (tgt := 46) dX0_failingSort_39 (by decide) (fun hc39 => ?_) (fun hc39 => ?_)
        · refine px_iconst (v := 3) dX0_failingSort_46 (by decide) ?_
          exact px_reti dX0_failingSort_47 (by first | (simp [s_fsort, bi, *]; done) | (simp_all [s_fsort, bi]; done)) (by rfl)
        · refine px_iconst (v := 0) dX0_failingSort_42 (by decide) ?_
          refine px_goto (tgt := 47) dX0_failingSort_43 (by decide) ?_
          exact px_reti dX0_failingSort_47 (by first | (simp [s_fsort, bi, *]; done) | (simp_all [s_fsort, bi]; done)) (by rfl)
      · refine px_lload_n dX0_failingSort_26 rfl ?_
        refine px_lload_n dX0_failingSort_27 rfl ?_
        refine px_l_le (tgt := 34) dX0_failingSort_28 dX0_failingSort_29 (by decide) (fun hc29 => ?_) (fun hc29 => ?_)
        · refine px_lload dX0_failingSort_34 rfl ?_
          refine px_callSN1 (ν := mX6_isContent) lk_X0_181 st_X6_isContent mok_X6_isContent dX0_failingSort_36 (c_X6_isContent x) rfl rfl (by omega) (by simp) ?_
          refine px_ifb_eq (tgt := 46) dX0_failingSort_39 (by decide) (fun hc39 => ?_) (fun hc39 => ?_)
          · refine px_iconst (v := 3) dX0_failingSort_46 (by decide) ?_
            exact px_reti dX0_failingSort_47 (by first | (simp [s_fsort, bi, *]; done) | (simp_all [s_fsort, bi]; done)) (by rfl)
          · refine px_iconst (v := 0) dX0_failingSort_42 (by decide) ?_
            refine px_goto (tgt := 47) dX0_failingSort_43 (by decide) ?_
            exact px_reti dX0_failingSort_47 (by first | (simp [s_fsort, bi, *]; done) | (simp_all [s_fsort, bi]; done)) (by rfl)
        · refine px_iconst (v := 4) dX0_failingSort_32 (by decide) ?_
          exact px_reti dX0_failingSort_33 (by first | (simp [s_fsort, bi, *]; done) | (simp_all [s_fsort, bi]; done)) (by rfl)
    · refine px_lload_n dX0_failingSort_12 rfl ?_
      refine px_lconst (v := 0) dX0_failingSort_13 (by decide) ?_
      refine px_l_ne (tgt := 20) dX0_failingSort_14 dX0_failingSort_15 (by decide) (fun hc15 => ?_) (fun hc15 => ?_)
      · refine px_iload_n dX0_failingSort_20 rfl ?_
        refine px_bipush (v := 33) dX0_failingSort_21 (by decide) ?_
        refine px_icmp_ne (tgt := 34) dX0_failingSort_23 (by decide) (fun hc23 => ?_) (fun hc23 => ?_)
        · refine px_lload dX0_failingSort_34 rfl ?_
          refine px_callSN1 (ν := mX6_isContent) lk_X0_181 st_X6_isContent mok_X6_isContent dX0_failingSort_36 (c_X6_isContent x) rfl rfl (by omega) (by simp) ?_
          refine px_ifb_eq (tgt := 46) dX0_failingSort_39 (by decide) (fun hc39 => ?_) (fun hc39 => ?_)
          · refine px_iconst (v := 3) dX0_failingSort_46 (by decide) ?_
            exact px_reti dX0_failingSort_47 (by first | (simp [s_fsort, bi, *]; done) | (simp_all [s_fsort, bi]; done)) (by rfl)
          · refine px_iconst (v := 0) dX0_failingSort_42 (by decide) ?_
            refine px_goto (tgt := 47) dX0_failingSort_43 (by decide) ?_
            exact px_reti dX0_failingSort_47 (by first | (simp [s_fsort, bi, *]; done) | (simp_all [s_fsort, bi]; done)) (by rfl)
        · refine px_lload_n dX0_failingSort_26 rfl ?_
          refine px_lload_n dX0_failingSort_27 rfl ?_
          refine px_l_le (tgt := 34) dX0_failingSort_28 dX0_failingSort_29 (by decide) (fun hc29 => ?_) (fun hc29 => ?_)
          · refine px_lload dX0_failingSort_34 rfl ?_
            refine px_callSN1 (ν := mX6_isContent) lk_X0_181 st_X6_isContent mok_X6_isContent dX0_failingSort_36 (c_X6_isContent x) rfl rfl (by omega) (by simp) ?_
            refine px_ifb_eq (tgt := 46) dX0_failingSort_39 (by decide) (fun hc39 => ?_) (fun hc39 => ?_)
            · refine px_iconst (v := 3) dX0_failingSort_46 (by decide) ?_
              exact px_reti dX0_failingSort_47 (by first | (simp [s_fsort, bi, *]; done) | (simp_all [s_fsort, bi]; done)) (by rfl)
            · refine px_iconst (v := 0) dX0_failingSort_42 (by decide) ?_
              refine px_goto (tgt := 47) dX0_failingSort_43 (by decide) ?_
              exact px_reti dX0_failingSort_47 (by first | (simp [s_fsort, bi, *]; done) | (simp_all [s_fsort, bi]; done)) (by rfl)
          · refine px_iconst (v := 4) dX0_failingSort_32 (by decide) ?_
            exact px_reti dX0_failingSort_33 (by first | (simp [s_fsort, bi, *]; done) | (simp_all [s_fsort, bi]; done)) (by rfl)
      · refine px_iconst (v := 2) dX0_failingSort_18 (by decide) ?_
        exact px_reti dX0_failingSort_19 (by first | (simp [s_fsort, bi, *]; done) | (simp_all [s_fsort, bi]; done)) (by rfl)

theorem c_X0_stepsToPass (a : Int32) (v : Int64) (k : Int32) : CT B D 0 mX0_stepsToPass [.int a, .long v, .int k] (n, w, f) (some (.int (s_pass a v k))) (n, w, f) := by
  refine CT.of [some (.int a), some (.long v), none, some (.int k)] rfl (Nat.le_of_ble_eq_true rfl) pl_X0 trivial ?_
  refine px_iload_n dX0_stepsToPass_0 rfl ?_
  refine px_bipush (v := 63) dX0_stepsToPass_1 (by decide) ?_
  refine px_icmp_ne (tgt := 12) dX0_stepsToPass_3 (by decide) (fun hc3 => ?_) (fun hc3 => ?_)
  · refine px_iload_n dX0_stepsToPass_12 rfl ?_
    refine px_bipush (v := 94) dX0_stepsToPass_13 (by decide) ?_
    refine px_icmp_ne (tgt := 28) dX0_stepsToPass_15 (by decide) (fun hc15 => ?_) (fun hc15 => ?_)
    · refine px_iconst (v := 0) dX0_stepsToPass_28 (by decide) ?_
      exact px_reti dX0_stepsToPass_29 (by first | (simp [s_pass, bi, *]; done) | (simp_all [s_pass, bi]; done)) (by rfl)
    · refine px_lload_n dX0_stepsToPass_18 rfl ?_
      refine px_lconst (v := 0) dX0_stepsToPass_19 (by decide) ?_
      refine px_l_ge (tgt := 28) dX0_stepsToPass_20 dX0_stepsToPass_21 (by decide) (fun hc21 => ?_) (fun hc21 => ?_)
      · refine px_iconst (v := 0) dX0_stepsToPass_28 (by decide) ?_
        exact px_reti dX0_stepsToPass_29 (by first | (simp [s_pass, bi, *]; done) | (simp_all [s_pass, bi]; done)) (by rfl)
      · refine px_iload_n dX0_stepsToPass_24 rfl ?_
        refine px_goto (tgt := 29) dX0_stepsToPass_25 (by decide) ?_
        exact px_reti dX0_stepsToPass_29 (by first | (simp [s_pass, bi, *]; done) | (simp_all [s_pass, bi]; done)) (by rfl)
  · refine px_lload_n dX0_stepsToPass_6 rfl ?_
    refine px_lconst (v := 0) dX0_stepsToPass_7 (by decide) ?_
    refine px_l_eq (tgt := 24) dX0_stepsToPass_8 dX0_stepsToPass_9 (by decide) (fun hc9 => ?_) (fun hc9 => ?_)
    · refine px_iload_n dX0_stepsToPass_24 rfl ?_
      refine px_goto (tgt := 29) dX0_stepsToPass_25 (by decide) ?_
      exact px_reti dX0_stepsToPass_29 (by first | (simp [s_pass, bi, *]; done) | (simp_all [s_pass, bi]; done)) (by rfl)
    · refine px_iload_n dX0_stepsToPass_12 rfl ?_
      refine px_bipush (v := 94) dX0_stepsToPass_13 (by decide) ?_
      refine px_icmp_ne (tgt := 28) dX0_stepsToPass_15 (by decide) (fun hc15 => ?_) (fun hc15 => ?_)
      · refine px_iconst (v := 0) dX0_stepsToPass_28 (by decide) ?_
        exact px_reti dX0_stepsToPass_29 (by first | (simp [s_pass, bi, *]; done) | (simp_all [s_pass, bi]; done)) (by rfl)
      · refine px_lload_n dX0_stepsToPass_18 rfl ?_
        refine px_lconst (v := 0) dX0_stepsToPass_19 (by decide) ?_
        refine px_l_ge (tgt := 28) dX0_stepsToPass_20 dX0_stepsToPass_21 (by decide) (fun hc21 => ?_) (fun hc21 => ?_)
        · refine px_iconst (v := 0) dX0_stepsToPass_28 (by decide) ?_
          exact px_reti dX0_stepsToPass_29 (by first | (simp [s_pass, bi, *]; done) | (simp_all [s_pass, bi]; done)) (by rfl)
        · refine px_iload_n dX0_stepsToPass_24 rfl ?_
          refine px_goto (tgt := 29) dX0_stepsToPass_25 (by decide) ?_
          exact px_reti dX0_stepsToPass_29 (by first | (simp [s_pass, bi, *]; done) | (simp_all [s_pass, bi]; done)) (by rfl)

theorem c_X7_isIn (v a b : Int64) : CT B D 0 mX7_isIn [.long v, .long a, .long b] (n, w, f) (some (.int (bi (s_isInL v a b)))) (n, w, f) := by
  refine CT.of [some (.long v), none, some (.long a), none, some (.long b), none] rfl (Nat.le_of_ble_eq_true rfl) pl_X7 (bi_01 _) ?_
  refine px_lload_n dX7_isIn_0 rfl ?_
  refine px_lload_n dX7_isIn_1 rfl ?_
  refine px_l_lt (tgt := 17) dX7_isIn_2 dX7_isIn_3 (by decide) (fun hc3 => ?_) (fun hc3 => ?_)
  · refine px_iconst (v := 0) dX7_isIn_17 (by decide) ?_
    exact px_reti dX7_isIn_18 (by first | (simp [s_isInL, bi, *]; done) | (simp_all [s_isInL, bi]; done)) (by rfl)
  · refine px_lload_n dX7_isIn_6 rfl ?_
    refine px_lload dX7_isIn_7 rfl ?_
    refine px_l_gt (tgt := 17) dX7_isIn_9 dX7_isIn_10 (by decide) (fun hc10 => ?_) (fun hc10 => ?_)
    · refine px_iconst (v := 0) dX7_isIn_17 (by decide) ?_
      exact px_reti dX7_isIn_18 (by first | (simp [s_isInL, bi, *]; done) | (simp_all [s_isInL, bi]; done)) (by rfl)
    · refine px_iconst (v := 1) dX7_isIn_13 (by decide) ?_
      refine px_goto (tgt := 18) dX7_isIn_14 (by decide) ?_
      exact px_reti dX7_isIn_18 (by first | (simp [s_isInL, bi, *]; done) | (simp_all [s_isInL, bi]; done)) (by rfl)

theorem c_X7_isInput (k : Int32) : CT B D 1 mX7_isInput [.int k] (n, w, f) (some (.int (bi (s_isInL k.toInt64 0 7)))) (n, w, f) := by
  refine CT.of [some (.int k)] rfl (Nat.le_of_ble_eq_true rfl) pl_X7 (bi_01 _) ?_
  refine px_iload_n dX7_isInput_0 rfl ?_
  refine px_i2l dX7_isInput_1 ?_
  refine px_lconst (v := 0) dX7_isInput_2 (by decide) ?_
  refine px_ldc2 dX7_isInput_3 kc_X7_5 ?_
  refine px_callS1 (ν := mX7_isIn) lk_X7_7 st_X7_isIn mok_X7_isIn dX7_isInput_6 (c_X7_isIn k.toInt64 0 7) rfl rfl (by omega) (by simp) ?_
  exact px_reti dX7_isInput_9 (by rfl) (by rfl)

theorem c_X7_isTarget (k : Int32) : CT B D 1 mX7_isTarget [.int k] (n, w, f) (some (.int (bi (s_isInL k.toInt64 8 23)))) (n, w, f) := by
  refine CT.of [some (.int k)] rfl (Nat.le_of_ble_eq_true rfl) pl_X7 (bi_01 _) ?_
  refine px_iload_n dX7_isTarget_0 rfl ?_
  refine px_i2l dX7_isTarget_1 ?_
  refine px_ldc2 dX7_isTarget_2 kc_X7_11 ?_
  refine px_ldc2 dX7_isTarget_5 kc_X7_13 ?_
  refine px_callS1 (ν := mX7_isIn) lk_X7_7 st_X7_isIn mok_X7_isIn dX7_isTarget_8 (c_X7_isIn k.toInt64 8 23) rfl rfl (by omega) (by simp) ?_
  exact px_reti dX7_isTarget_11 (by rfl) (by rfl)

theorem c_X7_isKey (k : Int32) : CT B D 1 mX7_isKey [.int k] (n, w, f) (some (.int (bi (s_isInL k.toInt64 0 23)))) (n, w, f) := by
  refine CT.of [some (.int k)] rfl (Nat.le_of_ble_eq_true rfl) pl_X7 (bi_01 _) ?_
  refine px_iload_n dX7_isKey_0 rfl ?_
  refine px_i2l dX7_isKey_1 ?_
  refine px_lconst (v := 0) dX7_isKey_2 (by decide) ?_
  refine px_ldc2 dX7_isKey_3 kc_X7_13 ?_
  refine px_callS1 (ν := mX7_isIn) lk_X7_7 st_X7_isIn mok_X7_isIn dX7_isKey_6 (c_X7_isIn k.toInt64 0 23) rfl rfl (by omega) (by simp) ?_
  exact px_reti dX7_isKey_9 (by rfl) (by rfl)

theorem c_X7_isList (k : Int32) : CT B D 1 mX7_isList [.int k] (n, w, f) (some (.int (bi (s_isInL k.toInt64 0 3)))) (n, w, f) := by
  refine CT.of [some (.int k)] rfl (Nat.le_of_ble_eq_true rfl) pl_X7 (bi_01 _) ?_
  refine px_iload_n dX7_isList_0 rfl ?_
  refine px_i2l dX7_isList_1 ?_
  refine px_lconst (v := 0) dX7_isList_2 (by decide) ?_
  refine px_ldc2 dX7_isList_3 kc_X7_234 ?_
  refine px_callS1 (ν := mX7_isIn) lk_X7_7 st_X7_isIn mok_X7_isIn dX7_isList_6 (c_X7_isIn k.toInt64 0 3) rfl rfl (by omega) (by simp) ?_
  exact px_reti dX7_isList_9 (by rfl) (by rfl)

theorem c_X7_numberResult (k : Int32) : CT B D 0 mX7_numberResult [.int k] (n, w, f) (some (.int ((k + 1000000) * 2))) (n, w, f) := by
  refine CT.of [some (.int k)] rfl (Nat.le_of_ble_eq_true rfl) pl_X7 trivial ?_
  refine px_iload_n dX7_numberResult_0 rfl ?_
  refine px_ldc dX7_numberResult_1 kc_X7_15 ?_
  refine px_iadd dX7_numberResult_3 ?_
  refine px_iconst (v := 2) dX7_numberResult_4 (by decide) ?_
  refine px_imul dX7_numberResult_5 ?_
  exact px_reti dX7_numberResult_6 (by rfl) (by rfl)

theorem c_X7_numberOf (k : Int32) : CT B D 0 mX7_numberOf [.int k] (n, w, f) (some (.int (k / 2 - 1000000))) (n, w, f) := by
  refine CT.of [some (.int k)] rfl (Nat.le_of_ble_eq_true rfl) pl_X7 trivial ?_
  refine px_iload_n dX7_numberOf_0 rfl ?_
  refine px_iconst (v := 2) dX7_numberOf_1 (by decide) ?_
  refine px_idiv dX7_numberOf_2 (by decide) ?_
  refine px_ldc dX7_numberOf_3 kc_X7_15 ?_
  refine px_isub dX7_numberOf_5 ?_
  exact px_reti dX7_numberOf_6 (by rfl) (by rfl)

def t_isFail (x : Int32) : Bool := !decide (x < 0) && decide (x - x / 2 * 2 = 1)
theorem c_X7_isFailure (k : Int32) : CT B D 0 mX7_isFailure [.int k] (n, w, f) (some (.int (bi (t_isFail k)))) (n, w, f) := by
  refine CT.of [some (.int k)] rfl (Nat.le_of_ble_eq_true rfl) pl_X7 (bi_01 _) ?_
  refine px_iload_n dX7_isFailure_0 rfl ?_
  refine px_if_lt (tgt := 15) dX7_isFailure_1 (by decide) (fun hc1 => ?_) (fun hc1 => ?_)
  · refine px_iconst (v := 0) dX7_isFailure_15 (by decide) ?_
    exact px_reti dX7_isFailure_16 (by first | (simp [t_isFail, bi, *]; done) | (simp_all [t_isFail, bi]; done)) (by rfl)
  · refine px_iload_n dX7_isFailure_4 rfl ?_
    refine px_iconst (v := 2) dX7_isFailure_5 (by decide) ?_
    refine px_irem dX7_isFailure_6 (by decide) ?_
    refine px_iconst (v := 1) dX7_isFailure_7 (by decide) ?_
    refine px_icmp_ne (tgt := 15) dX7_isFailure_8 (by decide) (fun hc8 => ?_) (fun hc8 => ?_)
    · refine px_iconst (v := 0) dX7_isFailure_15 (by decide) ?_
      exact px_reti dX7_isFailure_16 (by first | (simp [t_isFail, bi, *]; done) | (simp_all [t_isFail, bi]; done)) (by rfl)
    · refine px_iconst (v := 1) dX7_isFailure_11 (by decide) ?_
      refine px_goto (tgt := 16) dX7_isFailure_12 (by decide) ?_
      exact px_reti dX7_isFailure_16 (by first | (simp [t_isFail, bi, *]; done) | (simp_all [t_isFail, bi]; done)) (by rfl)

theorem c_X7_isAsking (k : Int32) : CT B D 0 mX7_isAsking [.int k] (n, w, f) (some (.int (bi (s_asks k)))) (n, w, f) := by
  refine CT.of [some (.int k)] rfl (Nat.le_of_ble_eq_true rfl) pl_X7 (bi_01 _) ?_
  refine px_iload_n dX7_isAsking_0 rfl ?_
  refine px_bipush (v := 43) dX7_isAsking_1 (by decide) ?_
  refine px_icmp_eq (tgt := 30) dX7_isAsking_3 (by decide) (fun hc3 => ?_) (fun hc3 => ?_)
  · refine px_iconst (v := 1) dX7_isAsking_30 (by decide) ?_
    refine px_goto (tgt := 35) dX7_isAsking_31 (by decide) ?_
    exact px_reti dX7_isAsking_35 (by first | (simp [s_asks, bi, *]; done) | (simp_all [s_asks, bi]; done)) (by rfl)
  · refine px_iload_n dX7_isAsking_6 rfl ?_
    refine px_bipush (v := 45) dX7_isAsking_7 (by decide) ?_
    refine px_icmp_eq (tgt := 30) dX7_isAsking_9 (by decide) (fun hc9 => ?_) (fun hc9 => ?_)
    · refine px_iconst (v := 1) dX7_isAsking_30 (by decide) ?_
      refine px_goto (tgt := 35) dX7_isAsking_31 (by decide) ?_
      exact px_reti dX7_isAsking_35 (by first | (simp [s_asks, bi, *]; done) | (simp_all [s_asks, bi]; done)) (by rfl)
    · refine px_iload_n dX7_isAsking_12 rfl ?_
      refine px_bipush (v := 42) dX7_isAsking_13 (by decide) ?_
      refine px_icmp_eq (tgt := 30) dX7_isAsking_15 (by decide) (fun hc15 => ?_) (fun hc15 => ?_)
      · refine px_iconst (v := 1) dX7_isAsking_30 (by decide) ?_
        refine px_goto (tgt := 35) dX7_isAsking_31 (by decide) ?_
        exact px_reti dX7_isAsking_35 (by first | (simp [s_asks, bi, *]; done) | (simp_all [s_asks, bi]; done)) (by rfl)
      · refine px_iload_n dX7_isAsking_18 rfl ?_
        refine px_bipush (v := 47) dX7_isAsking_19 (by decide) ?_
        refine px_icmp_eq (tgt := 30) dX7_isAsking_21 (by decide) (fun hc21 => ?_) (fun hc21 => ?_)
        · refine px_iconst (v := 1) dX7_isAsking_30 (by decide) ?_
          refine px_goto (tgt := 35) dX7_isAsking_31 (by decide) ?_
          exact px_reti dX7_isAsking_35 (by first | (simp [s_asks, bi, *]; done) | (simp_all [s_asks, bi]; done)) (by rfl)
        · refine px_iload_n dX7_isAsking_24 rfl ?_
          refine px_bipush (v := 38) dX7_isAsking_25 (by decide) ?_
          refine px_icmp_ne (tgt := 34) dX7_isAsking_27 (by decide) (fun hc27 => ?_) (fun hc27 => ?_)
          · refine px_iconst (v := 0) dX7_isAsking_34 (by decide) ?_
            exact px_reti dX7_isAsking_35 (by first | (simp [s_asks, bi, *]; done) | (simp_all [s_asks, bi]; done)) (by rfl)
          · refine px_iconst (v := 1) dX7_isAsking_30 (by decide) ?_
            refine px_goto (tgt := 35) dX7_isAsking_31 (by decide) ?_
            exact px_reti dX7_isAsking_35 (by first | (simp [s_asks, bi, *]; done) | (simp_all [s_asks, bi]; done)) (by rfl)

theorem c_X7_isSign (k : Int32) : CT B D 1 mX7_isSign [.int k] (n, w, f) (some (.int (bi (s_isSign k)))) (n, w, f) := by
  refine CT.of [some (.int k)] rfl (Nat.le_of_ble_eq_true rfl) pl_X7 (bi_01 _) ?_
  refine px_iload_n dX7_isSign_0 rfl ?_
  refine px_callS1 (ν := mX7_isAsking) lk_X7_123 st_X7_isAsking mok_X7_isAsking dX7_isSign_1 (c_X7_isAsking k) rfl rfl (by omega) (by simp) ?_
  refine px_ifb_ne (tgt := 37) dX7_isSign_4 (by decide) (fun hc4 => ?_) (fun hc4 => ?_)
  · refine px_iconst (v := 1) dX7_isSign_37 (by decide) ?_
    refine px_goto (tgt := 42) dX7_isSign_38 (by decide) ?_
    exact px_reti dX7_isSign_42 (by first | (simp [s_isSign, bi, *]; done) | (simp_all [s_isSign, bi]; done)) (by rfl)
  · refine px_iload_n dX7_isSign_7 rfl ?_
    refine px_bipush (v := 61) dX7_isSign_8 (by decide) ?_
    refine px_icmp_eq (tgt := 37) dX7_isSign_10 (by decide) (fun hc10 => ?_) (fun hc10 => ?_)
    · refine px_iconst (v := 1) dX7_isSign_37 (by decide) ?_
      refine px_goto (tgt := 42) dX7_isSign_38 (by decide) ?_
      exact px_reti dX7_isSign_42 (by first | (simp [s_isSign, bi, *]; done) | (simp_all [s_isSign, bi]; done)) (by rfl)
    · refine px_iload_n dX7_isSign_13 rfl ?_
      refine px_bipush (v := 37) dX7_isSign_14 (by decide) ?_
      refine px_icmp_eq (tgt := 37) dX7_isSign_16 (by decide) (fun hc16 => ?_) (fun hc16 => ?_)
      · refine px_iconst (v := 1) dX7_isSign_37 (by decide) ?_
        refine px_goto (tgt := 42) dX7_isSign_38 (by decide) ?_
        exact px_reti dX7_isSign_42 (by first | (simp [s_isSign, bi, *]; done) | (simp_all [s_isSign, bi]; done)) (by rfl)
      · refine px_iload_n dX7_isSign_19 rfl ?_
        refine px_bipush (v := 33) dX7_isSign_20 (by decide) ?_
        refine px_icmp_eq (tgt := 37) dX7_isSign_22 (by decide) (fun hc22 => ?_) (fun hc22 => ?_)
        · refine px_iconst (v := 1) dX7_isSign_37 (by decide) ?_
          refine px_goto (tgt := 42) dX7_isSign_38 (by decide) ?_
          exact px_reti dX7_isSign_42 (by first | (simp [s_isSign, bi, *]; done) | (simp_all [s_isSign, bi]; done)) (by rfl)
        · refine px_iload_n dX7_isSign_25 rfl ?_
          refine px_bipush (v := 63) dX7_isSign_26 (by decide) ?_
          refine px_icmp_eq (tgt := 37) dX7_isSign_28 (by decide) (fun hc28 => ?_) (fun hc28 => ?_)
          · refine px_iconst (v := 1) dX7_isSign_37 (by decide) ?_
            refine px_goto (tgt := 42) dX7_isSign_38 (by decide) ?_
            exact px_reti dX7_isSign_42 (by first | (simp [s_isSign, bi, *]; done) | (simp_all [s_isSign, bi]; done)) (by rfl)
          · refine px_iload_n dX7_isSign_31 rfl ?_
            refine px_bipush (v := 94) dX7_isSign_32 (by decide) ?_
            refine px_icmp_ne (tgt := 41) dX7_isSign_34 (by decide) (fun hc34 => ?_) (fun hc34 => ?_)
            · refine px_iconst (v := 0) dX7_isSign_41 (by decide) ?_
              exact px_reti dX7_isSign_42 (by first | (simp [s_isSign, bi, *]; done) | (simp_all [s_isSign, bi]; done)) (by rfl)
            · refine px_iconst (v := 1) dX7_isSign_37 (by decide) ?_
              refine px_goto (tgt := 42) dX7_isSign_38 (by decide) ?_
              exact px_reti dX7_isSign_42 (by first | (simp [s_isSign, bi, *]; done) | (simp_all [s_isSign, bi]; done)) (by rfl)

theorem c_X0_worked (a : Int32) (v b : Int64) : CT B D 0 mX0_worked [.int a, .long v, .long b] (n, w, f) (some (.long (s_worked a v b))) (n, w, f) := by
  refine CT.of [some (.int a), some (.long v), none, some (.long b), none] rfl (Nat.le_of_ble_eq_true rfl) pl_X0 trivial ?_
  refine px_iload_n dX0_worked_0 rfl ?_
  rcases sw_cases a 37 25 with h | h | ⟨j, hj, h⟩
  · refine px_tableOut (tgt := 160) dX0_worked_1 (Or.inl h) (by decide) ?_
    have hne : ∀ z : Int32, 37 ≤ z.toInt → z.toInt ≤ 61 → ¬ a = z := fun z h1 h2 e => by subst e; omega
    refine px_lload_n dX0_worked_160 rfl ?_
    exact px_retl dX0_worked_161 (by simp [s_worked, hne 43 (by decide) (by decide), hne 45 (by decide) (by decide), hne 42 (by decide) (by decide), hne 47 (by decide) (by decide), hne 37 (by decide) (by decide), hne 38 (by decide) (by decide), hne 61 (by decide) (by decide), *]) (by rfl)
  · refine px_tableOut (tgt := 160) dX0_worked_1 (Or.inr (by omega)) (by decide) ?_
    have hne : ∀ z : Int32, 37 ≤ z.toInt → z.toInt ≤ 61 → ¬ a = z := fun z h1 h2 e => by subst e; omega
    refine px_lload_n dX0_worked_160 rfl ?_
    exact px_retl dX0_worked_161 (by simp [s_worked, hne 43 (by decide) (by decide), hne 45 (by decide) (by decide), hne 42 (by decide) (by decide), hne 47 (by decide) (by decide), hne 37 (by decide) (by decide), hne 38 (by decide) (by decide), hne 61 (by decide) (by decide), *]) (by rfl)
  · match j, hj with
    | 0, _ =>
      have hx : a = 37 := Int32.toInt_inj.mp (by rw [h]; rfl)
      subst hx
      refine px_tableIn (off := 141) (tgt := 142) dX0_worked_1 (by decide) (by decide) rfl (by decide) ?_
      refine px_lload_n dX0_worked_142 rfl ?_
      refine px_lconst (v := 0) dX0_worked_143 (by decide) ?_
      refine px_l_ne (tgt := 152) dX0_worked_144 dX0_worked_145 (by decide) (fun hc145 => ?_) (fun hc145 => ?_)
      · refine px_lload_n dX0_worked_152 rfl ?_
        refine px_lload_n dX0_worked_153 rfl ?_
        refine px_lrem dX0_worked_154 (by assumption) ?_
        exact px_retl dX0_worked_155 (by simp [s_worked, *]) (by rfl)
      · refine px_lload_n dX0_worked_148 rfl ?_
        refine px_goto (tgt := 155) dX0_worked_149 (by decide) ?_
        exact px_retl dX0_worked_155 (by simp [s_worked, *]) (by rfl)
    | 1, _ =>
      have hx : a = 38 := Int32.toInt_inj.mp (by rw [h]; rfl)
      subst hx
      refine px_tableIn (off := 155) (tgt := 156) dX0_worked_1 (by decide) (by decide) rfl (by decide) ?_
      refine px_lload_n dX0_worked_156 rfl ?_
      exact px_retl dX0_worked_157 (by simp [s_worked, *]) (by rfl)
    | 2, _ =>
      have hx : a = 39 := Int32.toInt_inj.mp (by rw [h]; rfl)
      subst hx
      refine px_tableIn (off := 159) (tgt := 160) dX0_worked_1 (by decide) (by decide) rfl (by decide) ?_
      refine px_lload_n dX0_worked_160 rfl ?_
      exact px_retl dX0_worked_161 (by simp [s_worked, *]) (by rfl)
    | 3, _ =>
      have hx : a = 40 := Int32.toInt_inj.mp (by rw [h]; rfl)
      subst hx
      refine px_tableIn (off := 159) (tgt := 160) dX0_worked_1 (by decide) (by decide) rfl (by decide) ?_
      refine px_lload_n dX0_worked_160 rfl ?_
      exact px_retl dX0_worked_161 (by simp [s_worked, *]) (by rfl)
    | 4, _ =>
      have hx : a = 41 := Int32.toInt_inj.mp (by rw [h]; rfl)
      subst hx
      refine px_tableIn (off := 159) (tgt := 160) dX0_worked_1 (by decide) (by decide) rfl (by decide) ?_
      refine px_lload_n dX0_worked_160 rfl ?_
      exact px_retl dX0_worked_161 (by simp [s_worked, *]) (by rfl)
    | 5, _ =>
      have hx : a = 42 := Int32.toInt_inj.mp (by rw [h]; rfl)
      subst hx
      refine px_tableIn (off := 123) (tgt := 124) dX0_worked_1 (by decide) (by decide) rfl (by decide) ?_
      refine px_lload_n dX0_worked_124 rfl ?_
      refine px_lload_n dX0_worked_125 rfl ?_
      refine px_lmul dX0_worked_126 ?_
      exact px_retl dX0_worked_127 (by simp [s_worked, *]) (by rfl)
    | 6, _ =>
      have hx : a = 43 := Int32.toInt_inj.mp (by rw [h]; rfl)
      subst hx
      refine px_tableIn (off := 115) (tgt := 116) dX0_worked_1 (by decide) (by decide) rfl (by decide) ?_
      refine px_lload_n dX0_worked_116 rfl ?_
      refine px_lload_n dX0_worked_117 rfl ?_
      refine px_ladd dX0_worked_118 ?_
      exact px_retl dX0_worked_119 (by simp [s_worked, *]) (by rfl)
    | 7, _ =>
      have hx : a = 44 := Int32.toInt_inj.mp (by rw [h]; rfl)
      subst hx
      refine px_tableIn (off := 159) (tgt := 160) dX0_worked_1 (by decide) (by decide) rfl (by decide) ?_
      refine px_lload_n dX0_worked_160 rfl ?_
      exact px_retl dX0_worked_161 (by simp [s_worked, *]) (by rfl)
    | 8, _ =>
      have hx : a = 45 := Int32.toInt_inj.mp (by rw [h]; rfl)
      subst hx
      refine px_tableIn (off := 119) (tgt := 120) dX0_worked_1 (by decide) (by decide) rfl (by decide) ?_
      refine px_lload_n dX0_worked_120 rfl ?_
      refine px_lload_n dX0_worked_121 rfl ?_
      refine px_lsub dX0_worked_122 ?_
      exact px_retl dX0_worked_123 (by simp [s_worked, *]) (by rfl)
    | 9, _ =>
      have hx : a = 46 := Int32.toInt_inj.mp (by rw [h]; rfl)
      subst hx
      refine px_tableIn (off := 159) (tgt := 160) dX0_worked_1 (by decide) (by decide) rfl (by decide) ?_
      refine px_lload_n dX0_worked_160 rfl ?_
      exact px_retl dX0_worked_161 (by simp [s_worked, *]) (by rfl)
    | 10, _ =>
      have hx : a = 47 := Int32.toInt_inj.mp (by rw [h]; rfl)
      subst hx
      refine px_tableIn (off := 127) (tgt := 128) dX0_worked_1 (by decide) (by decide) rfl (by decide) ?_
      refine px_lload_n dX0_worked_128 rfl ?_
      refine px_lconst (v := 0) dX0_worked_129 (by decide) ?_
      refine px_l_ne (tgt := 138) dX0_worked_130 dX0_worked_131 (by decide) (fun hc131 => ?_) (fun hc131 => ?_)
      · refine px_lload_n dX0_worked_138 rfl ?_
        refine px_lload_n dX0_worked_139 rfl ?_
        refine px_ldiv dX0_worked_140 (by assumption) ?_
        exact px_retl dX0_worked_141 (by simp [s_worked, *]) (by rfl)
      · refine px_lload_n dX0_worked_134 rfl ?_
        refine px_goto (tgt := 141) dX0_worked_135 (by decide) ?_
        exact px_retl dX0_worked_141 (by simp [s_worked, *]) (by rfl)
    | 11, _ =>
      have hx : a = 48 := Int32.toInt_inj.mp (by rw [h]; rfl)
      subst hx
      refine px_tableIn (off := 159) (tgt := 160) dX0_worked_1 (by decide) (by decide) rfl (by decide) ?_
      refine px_lload_n dX0_worked_160 rfl ?_
      exact px_retl dX0_worked_161 (by simp [s_worked, *]) (by rfl)
    | 12, _ =>
      have hx : a = 49 := Int32.toInt_inj.mp (by rw [h]; rfl)
      subst hx
      refine px_tableIn (off := 159) (tgt := 160) dX0_worked_1 (by decide) (by decide) rfl (by decide) ?_
      refine px_lload_n dX0_worked_160 rfl ?_
      exact px_retl dX0_worked_161 (by simp [s_worked, *]) (by rfl)
    | 13, _ =>
      have hx : a = 50 := Int32.toInt_inj.mp (by rw [h]; rfl)
      subst hx
      refine px_tableIn (off := 159) (tgt := 160) dX0_worked_1 (by decide) (by decide) rfl (by decide) ?_
      refine px_lload_n dX0_worked_160 rfl ?_
      exact px_retl dX0_worked_161 (by simp [s_worked, *]) (by rfl)
    | 14, _ =>
      have hx : a = 51 := Int32.toInt_inj.mp (by rw [h]; rfl)
      subst hx
      refine px_tableIn (off := 159) (tgt := 160) dX0_worked_1 (by decide) (by decide) rfl (by decide) ?_
      refine px_lload_n dX0_worked_160 rfl ?_
      exact px_retl dX0_worked_161 (by simp [s_worked, *]) (by rfl)
    | 15, _ =>
      have hx : a = 52 := Int32.toInt_inj.mp (by rw [h]; rfl)
      subst hx
      refine px_tableIn (off := 159) (tgt := 160) dX0_worked_1 (by decide) (by decide) rfl (by decide) ?_
      refine px_lload_n dX0_worked_160 rfl ?_
      exact px_retl dX0_worked_161 (by simp [s_worked, *]) (by rfl)
    | 16, _ =>
      have hx : a = 53 := Int32.toInt_inj.mp (by rw [h]; rfl)
      subst hx
      refine px_tableIn (off := 159) (tgt := 160) dX0_worked_1 (by decide) (by decide) rfl (by decide) ?_
      refine px_lload_n dX0_worked_160 rfl ?_
      exact px_retl dX0_worked_161 (by simp [s_worked, *]) (by rfl)
    | 17, _ =>
      have hx : a = 54 := Int32.toInt_inj.mp (by rw [h]; rfl)
      subst hx
      refine px_tableIn (off := 159) (tgt := 160) dX0_worked_1 (by decide) (by decide) rfl (by decide) ?_
      refine px_lload_n dX0_worked_160 rfl ?_
      exact px_retl dX0_worked_161 (by simp [s_worked, *]) (by rfl)
    | 18, _ =>
      have hx : a = 55 := Int32.toInt_inj.mp (by rw [h]; rfl)
      subst hx
      refine px_tableIn (off := 159) (tgt := 160) dX0_worked_1 (by decide) (by decide) rfl (by decide) ?_
      refine px_lload_n dX0_worked_160 rfl ?_
      exact px_retl dX0_worked_161 (by simp [s_worked, *]) (by rfl)
    | 19, _ =>
      have hx : a = 56 := Int32.toInt_inj.mp (by rw [h]; rfl)
      subst hx
      refine px_tableIn (off := 159) (tgt := 160) dX0_worked_1 (by decide) (by decide) rfl (by decide) ?_
      refine px_lload_n dX0_worked_160 rfl ?_
      exact px_retl dX0_worked_161 (by simp [s_worked, *]) (by rfl)
    | 20, _ =>
      have hx : a = 57 := Int32.toInt_inj.mp (by rw [h]; rfl)
      subst hx
      refine px_tableIn (off := 159) (tgt := 160) dX0_worked_1 (by decide) (by decide) rfl (by decide) ?_
      refine px_lload_n dX0_worked_160 rfl ?_
      exact px_retl dX0_worked_161 (by simp [s_worked, *]) (by rfl)
    | 21, _ =>
      have hx : a = 58 := Int32.toInt_inj.mp (by rw [h]; rfl)
      subst hx
      refine px_tableIn (off := 159) (tgt := 160) dX0_worked_1 (by decide) (by decide) rfl (by decide) ?_
      refine px_lload_n dX0_worked_160 rfl ?_
      exact px_retl dX0_worked_161 (by simp [s_worked, *]) (by rfl)
    | 22, _ =>
      have hx : a = 59 := Int32.toInt_inj.mp (by rw [h]; rfl)
      subst hx
      refine px_tableIn (off := 159) (tgt := 160) dX0_worked_1 (by decide) (by decide) rfl (by decide) ?_
      refine px_lload_n dX0_worked_160 rfl ?_
      exact px_retl dX0_worked_161 (by simp [s_worked, *]) (by rfl)
    | 23, _ =>
      have hx : a = 60 := Int32.toInt_inj.mp (by rw [h]; rfl)
      subst hx
      refine px_tableIn (off := 159) (tgt := 160) dX0_worked_1 (by decide) (by decide) rfl (by decide) ?_
      refine px_lload_n dX0_worked_160 rfl ?_
      exact px_retl dX0_worked_161 (by simp [s_worked, *]) (by rfl)
    | 24, _ =>
      have hx : a = 61 := Int32.toInt_inj.mp (by rw [h]; rfl)
      subst hx
      refine px_tableIn (off := 157) (tgt := 158) dX0_worked_1 (by decide) (by decide) rfl (by decide) ?_
      refine px_lload_n dX0_worked_158 rfl ?_
      exact px_retl dX0_worked_159 (by simp [s_worked, *]) (by rfl)
    | k + 25, hk => exact absurd hk (by omega)
end M10
end
