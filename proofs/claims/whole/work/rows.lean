section
-- ===== PART A: goes FIRST, ahead of the names: the tables' words, and 'selects' of the private methods out of them =====
/-- a private method of a class that the tables say can be made, by its rows of tables_1 -/
def lw_okq (q : MethodName × Nat) : Prop := (q.1.cls ≠ "java/lang/invoke/MethodHandle" ∧ q.1.cls ≠ "java/lang/invoke/VarHandle") ∧ Cond.instantiable q.1.cls q.2 ∈ tables_1 ∧ Cond.privateMethod q.1 ∈ tables_1 ∧ Cond.instanceMethod q.1 ∈ tables_1
theorem lw_p0 : lw_okq (⟨"BuildEngine$Tape", "tellsNoKey", "(II)Z"⟩, 2) := ⟨⟨by decide +kernel, by decide +kernel⟩, List.mem_of_getElem? (i := 163) (by decide +kernel), List.mem_of_getElem? (i := 297) (by decide +kernel), List.mem_of_getElem? (i := 298) (by decide +kernel)⟩
theorem lw_p1 : lw_okq (⟨"BuildEngine$Target", "copyRule", "(LBuildEngine$Target;)V"⟩, 7) := ⟨⟨by decide +kernel, by decide +kernel⟩, List.mem_of_getElem? (i := 36) (by decide +kernel), List.mem_of_getElem? (i := 338) (by decide +kernel), List.mem_of_getElem? (i := 339) (by decide +kernel)⟩
theorem lw_p2 : lw_okq (⟨"BuildEngine$Builder", "buildTarget", "(II)V"⟩, 11) := ⟨⟨by decide +kernel, by decide +kernel⟩, List.mem_of_getElem? (i := 21) (by decide +kernel), List.mem_of_getElem? (i := 381) (by decide +kernel), List.mem_of_getElem? (i := 382) (by decide +kernel)⟩
theorem lw_p3 : lw_okq (⟨"BuildEngine$Builder", "isStillSame", "(LBuildEngine$Target;I)Z"⟩, 11) := ⟨⟨by decide +kernel, by decide +kernel⟩, List.mem_of_getElem? (i := 21) (by decide +kernel), List.mem_of_getElem? (i := 391) (by decide +kernel), List.mem_of_getElem? (i := 392) (by decide +kernel)⟩
theorem lw_p4 : lw_okq (⟨"BuildEngine$Builder", "runToEnd", "(ILBuildEngine$Target;I)V"⟩, 11) := ⟨⟨by decide +kernel, by decide +kernel⟩, List.mem_of_getElem? (i := 21) (by decide +kernel), List.mem_of_getElem? (i := 416) (by decide +kernel), List.mem_of_getElem? (i := 417) (by decide +kernel)⟩
theorem lw_p5 : lw_okq (⟨"BuildEngine$Builder", "runOnce", "(ILBuildEngine$Target;)LBuildEngine$Result;"⟩, 11) := ⟨⟨by decide +kernel, by decide +kernel⟩, List.mem_of_getElem? (i := 21) (by decide +kernel), List.mem_of_getElem? (i := 420) (by decide +kernel), List.mem_of_getElem? (i := 421) (by decide +kernel)⟩
theorem lw_p6 : lw_okq (⟨"BuildEngine$Builder", "resultIfDone", "(I)LBuildEngine$Result;"⟩, 11) := ⟨⟨by decide +kernel, by decide +kernel⟩, List.mem_of_getElem? (i := 21) (by decide +kernel), List.mem_of_getElem? (i := 432) (by decide +kernel), List.mem_of_getElem? (i := 433) (by decide +kernel)⟩
theorem lw_p7 : lw_okq (⟨"BuildEngine$Builder", "noteDone", "(I)V"⟩, 11) := ⟨⟨by decide +kernel, by decide +kernel⟩, List.mem_of_getElem? (i := 21) (by decide +kernel), List.mem_of_getElem? (i := 465) (by decide +kernel), List.mem_of_getElem? (i := 466) (by decide +kernel)⟩
theorem lw_p8 : lw_okq (⟨"BuildEngine$World", "deepenAll", "()Z"⟩, 4) := ⟨⟨by decide +kernel, by decide +kernel⟩, List.mem_of_getElem? (i := 27) (by decide +kernel), List.mem_of_getElem? (i := 582) (by decide +kernel), List.mem_of_getElem? (i := 583) (by decide +kernel)⟩
theorem lw_p9 : lw_okq (⟨"BuildEngine$World", "depthByTrace", "(LBuildEngine$Target;)I"⟩, 4) := ⟨⟨by decide +kernel, by decide +kernel⟩, List.mem_of_getElem? (i := 27) (by decide +kernel), List.mem_of_getElem? (i := 586) (by decide +kernel), List.mem_of_getElem? (i := 587) (by decide +kernel)⟩
theorem lw_p10 : lw_okq (⟨"BuildEngine$World", "hasSameBelow", "(I)Z"⟩, 4) := ⟨⟨by decide +kernel, by decide +kernel⟩, List.mem_of_getElem? (i := 27) (by decide +kernel), List.mem_of_getElem? (i := 610) (by decide +kernel), List.mem_of_getElem? (i := 611) (by decide +kernel)⟩
theorem lw_p11 : lw_okq (⟨"BuildEngine$World", "isUpToDate", "(LBuildEngine$Target;)Z"⟩, 4) := ⟨⟨by decide +kernel, by decide +kernel⟩, List.mem_of_getElem? (i := 27) (by decide +kernel), List.mem_of_getElem? (i := 623) (by decide +kernel), List.mem_of_getElem? (i := 624) (by decide +kernel)⟩
theorem lw_p12 : lw_okq (⟨"BuildEngine", "rowOf", "(I)LBuildEngine$Row;"⟩, 7) := ⟨⟨by decide +kernel, by decide +kernel⟩, List.mem_of_getElem? (i := 13) (by decide +kernel), List.mem_of_getElem? (i := 658) (by decide +kernel), List.mem_of_getElem? (i := 659) (by decide +kernel)⟩
theorem lw_p13 : lw_okq (⟨"BuildEngineModel", "fault", "()I"⟩, 29) := ⟨⟨by decide +kernel, by decide +kernel⟩, List.mem_of_getElem? (i := 720) (by decide +kernel), List.mem_of_getElem? (i := 857) (by decide +kernel), List.mem_of_getElem? (i := 858) (by decide +kernel)⟩
theorem lw_p14 : lw_okq (⟨"BuildEngineModel", "isFigure", "(I)Z"⟩, 29) := ⟨⟨by decide +kernel, by decide +kernel⟩, List.mem_of_getElem? (i := 720) (by decide +kernel), List.mem_of_getElem? (i := 867) (by decide +kernel), List.mem_of_getElem? (i := 868) (by decide +kernel)⟩
theorem lw_p15 : lw_okq (⟨"BuildEngineModel", "traceAt", "(I)I"⟩, 29) := ⟨⟨by decide +kernel, by decide +kernel⟩, List.mem_of_getElem? (i := 720) (by decide +kernel), List.mem_of_getElem? (i := 873) (by decide +kernel), List.mem_of_getElem? (i := 874) (by decide +kernel)⟩
def lw_privs_1 : List (MethodName × Nat) := [(⟨"BuildEngine$Tape", "tellsNoKey", "(II)Z"⟩, 2), (⟨"BuildEngine$Target", "copyRule", "(LBuildEngine$Target;)V"⟩, 7), (⟨"BuildEngine$Builder", "buildTarget", "(II)V"⟩, 11), (⟨"BuildEngine$Builder", "isStillSame", "(LBuildEngine$Target;I)Z"⟩, 11), (⟨"BuildEngine$Builder", "runToEnd", "(ILBuildEngine$Target;I)V"⟩, 11), (⟨"BuildEngine$Builder", "runOnce", "(ILBuildEngine$Target;)LBuildEngine$Result;"⟩, 11), (⟨"BuildEngine$Builder", "resultIfDone", "(I)LBuildEngine$Result;"⟩, 11), (⟨"BuildEngine$Builder", "noteDone", "(I)V"⟩, 11), (⟨"BuildEngine$World", "deepenAll", "()Z"⟩, 4), (⟨"BuildEngine$World", "depthByTrace", "(LBuildEngine$Target;)I"⟩, 4), (⟨"BuildEngine$World", "hasSameBelow", "(I)Z"⟩, 4), (⟨"BuildEngine$World", "isUpToDate", "(LBuildEngine$Target;)Z"⟩, 4), (⟨"BuildEngine", "rowOf", "(I)LBuildEngine$Row;"⟩, 7), (⟨"BuildEngineModel", "fault", "()I"⟩, 29), (⟨"BuildEngineModel", "isFigure", "(I)Z"⟩, 29), (⟨"BuildEngineModel", "traceAt", "(I)I"⟩, 29)]
theorem lw_r1 : ∀ q ∈ lw_privs_1, lw_okq q := List.forall_mem_cons.mpr ⟨lw_p0, List.forall_mem_cons.mpr ⟨lw_p1, List.forall_mem_cons.mpr ⟨lw_p2, List.forall_mem_cons.mpr ⟨lw_p3, List.forall_mem_cons.mpr ⟨lw_p4, List.forall_mem_cons.mpr ⟨lw_p5, List.forall_mem_cons.mpr ⟨lw_p6, List.forall_mem_cons.mpr ⟨lw_p7, List.forall_mem_cons.mpr ⟨lw_p8, List.forall_mem_cons.mpr ⟨lw_p9, List.forall_mem_cons.mpr ⟨lw_p10, List.forall_mem_cons.mpr ⟨lw_p11, List.forall_mem_cons.mpr ⟨lw_p12, List.forall_mem_cons.mpr ⟨lw_p13, List.forall_mem_cons.mpr ⟨lw_p14, List.forall_mem_cons.mpr ⟨lw_p15, fun _ h => absurd h List.not_mem_nil⟩⟩⟩⟩⟩⟩⟩⟩⟩⟩⟩⟩⟩⟩⟩⟩
theorem lw_p16 : lw_okq (⟨"BuildEngineModel", "ruled", "(II)I"⟩, 29) := ⟨⟨by decide +kernel, by decide +kernel⟩, List.mem_of_getElem? (i := 720) (by decide +kernel), List.mem_of_getElem? (i := 881) (by decide +kernel), List.mem_of_getElem? (i := 882) (by decide +kernel)⟩
theorem lw_p17 : lw_okq (⟨"BuildEngineModel", "built", "(IZ)I"⟩, 29) := ⟨⟨by decide +kernel, by decide +kernel⟩, List.mem_of_getElem? (i := 720) (by decide +kernel), List.mem_of_getElem? (i := 897) (by decide +kernel), List.mem_of_getElem? (i := 898) (by decide +kernel)⟩
theorem lw_p18 : lw_okq (⟨"BuildEngineModel", "builds", "(I)V"⟩, 29) := ⟨⟨by decide +kernel, by decide +kernel⟩, List.mem_of_getElem? (i := 720) (by decide +kernel), List.mem_of_getElem? (i := 901) (by decide +kernel), List.mem_of_getElem? (i := 902) (by decide +kernel)⟩
theorem lw_p19 : lw_okq (⟨"BuildEngineModel", "fails", "(IIII)I"⟩, 29) := ⟨⟨by decide +kernel, by decide +kernel⟩, List.mem_of_getElem? (i := 720) (by decide +kernel), List.mem_of_getElem? (i := 905) (by decide +kernel), List.mem_of_getElem? (i := 906) (by decide +kernel)⟩
theorem lw_p20 : lw_okq (⟨"BuildEngineModel", "traced", "(I)I"⟩, 29) := ⟨⟨by decide +kernel, by decide +kernel⟩, List.mem_of_getElem? (i := 720) (by decide +kernel), List.mem_of_getElem? (i := 909) (by decide +kernel), List.mem_of_getElem? (i := 910) (by decide +kernel)⟩
theorem lw_p21 : lw_okq (⟨"BuildEngineModel", "isAsSeen", "(I)Z"⟩, 29) := ⟨⟨by decide +kernel, by decide +kernel⟩, List.mem_of_getElem? (i := 720) (by decide +kernel), List.mem_of_getElem? (i := 913) (by decide +kernel), List.mem_of_getElem? (i := 914) (by decide +kernel)⟩
theorem lw_p22 : lw_okq (⟨"BuildEngineModel", "isDone", "(I)Z"⟩, 29) := ⟨⟨by decide +kernel, by decide +kernel⟩, List.mem_of_getElem? (i := 720) (by decide +kernel), List.mem_of_getElem? (i := 917) (by decide +kernel), List.mem_of_getElem? (i := 918) (by decide +kernel)⟩
theorem lw_p23 : lw_okq (⟨"BuildEngineModel", "has", "(I)I"⟩, 29) := ⟨⟨by decide +kernel, by decide +kernel⟩, List.mem_of_getElem? (i := 720) (by decide +kernel), List.mem_of_getElem? (i := 921) (by decide +kernel), List.mem_of_getElem? (i := 922) (by decide +kernel)⟩
theorem lw_p24 : lw_okq (⟨"BuildEngineModel", "runs", "(I)I"⟩, 29) := ⟨⟨by decide +kernel, by decide +kernel⟩, List.mem_of_getElem? (i := 720) (by decide +kernel), List.mem_of_getElem? (i := 925) (by decide +kernel), List.mem_of_getElem? (i := 926) (by decide +kernel)⟩
theorem lw_p25 : lw_okq (⟨"BuildEngineModel", "goes", "(I)I"⟩, 29) := ⟨⟨by decide +kernel, by decide +kernel⟩, List.mem_of_getElem? (i := 720) (by decide +kernel), List.mem_of_getElem? (i := 929) (by decide +kernel), List.mem_of_getElem? (i := 930) (by decide +kernel)⟩
theorem lw_p26 : lw_okq (⟨"BuildEngineModel", "notes", "(II)V"⟩, 29) := ⟨⟨by decide +kernel, by decide +kernel⟩, List.mem_of_getElem? (i := 720) (by decide +kernel), List.mem_of_getElem? (i := 933) (by decide +kernel), List.mem_of_getElem? (i := 934) (by decide +kernel)⟩
theorem lw_p27 : lw_okq (⟨"BuildEngineModel", "isOfRing", "(I)Z"⟩, 29) := ⟨⟨by decide +kernel, by decide +kernel⟩, List.mem_of_getElem? (i := 720) (by decide +kernel), List.mem_of_getElem? (i := 940) (by decide +kernel), List.mem_of_getElem? (i := 941) (by decide +kernel)⟩
theorem lw_p28 : lw_okq (⟨"BuildEngineModel", "finishes", "(I)V"⟩, 29) := ⟨⟨by decide +kernel, by decide +kernel⟩, List.mem_of_getElem? (i := 720) (by decide +kernel), List.mem_of_getElem? (i := 944) (by decide +kernel), List.mem_of_getElem? (i := 945) (by decide +kernel)⟩
theorem lw_p29 : lw_okq (⟨"BuildEngineModel", "manyDone", "()I"⟩, 29) := ⟨⟨by decide +kernel, by decide +kernel⟩, List.mem_of_getElem? (i := 720) (by decide +kernel), List.mem_of_getElem? (i := 948) (by decide +kernel), List.mem_of_getElem? (i := 949) (by decide +kernel)⟩
theorem lw_p30 : lw_okq (⟨"BuildEngineModel", "toldOf", "(I)I"⟩, 29) := ⟨⟨by decide +kernel, by decide +kernel⟩, List.mem_of_getElem? (i := 720) (by decide +kernel), List.mem_of_getElem? (i := 976) (by decide +kernel), List.mem_of_getElem? (i := 977) (by decide +kernel)⟩
theorem lw_p31 : lw_okq (⟨"BuildEngineModel", "causeOf", "(II)I"⟩, 29) := ⟨⟨by decide +kernel, by decide +kernel⟩, List.mem_of_getElem? (i := 720) (by decide +kernel), List.mem_of_getElem? (i := 986) (by decide +kernel), List.mem_of_getElem? (i := 987) (by decide +kernel)⟩
def lw_privs_2 : List (MethodName × Nat) := [(⟨"BuildEngineModel", "ruled", "(II)I"⟩, 29), (⟨"BuildEngineModel", "built", "(IZ)I"⟩, 29), (⟨"BuildEngineModel", "builds", "(I)V"⟩, 29), (⟨"BuildEngineModel", "fails", "(IIII)I"⟩, 29), (⟨"BuildEngineModel", "traced", "(I)I"⟩, 29), (⟨"BuildEngineModel", "isAsSeen", "(I)Z"⟩, 29), (⟨"BuildEngineModel", "isDone", "(I)Z"⟩, 29), (⟨"BuildEngineModel", "has", "(I)I"⟩, 29), (⟨"BuildEngineModel", "runs", "(I)I"⟩, 29), (⟨"BuildEngineModel", "goes", "(I)I"⟩, 29), (⟨"BuildEngineModel", "notes", "(II)V"⟩, 29), (⟨"BuildEngineModel", "isOfRing", "(I)Z"⟩, 29), (⟨"BuildEngineModel", "finishes", "(I)V"⟩, 29), (⟨"BuildEngineModel", "manyDone", "()I"⟩, 29), (⟨"BuildEngineModel", "toldOf", "(I)I"⟩, 29), (⟨"BuildEngineModel", "causeOf", "(II)I"⟩, 29)]
theorem lw_r2 : ∀ q ∈ lw_privs_2, lw_okq q := List.forall_mem_cons.mpr ⟨lw_p16, List.forall_mem_cons.mpr ⟨lw_p17, List.forall_mem_cons.mpr ⟨lw_p18, List.forall_mem_cons.mpr ⟨lw_p19, List.forall_mem_cons.mpr ⟨lw_p20, List.forall_mem_cons.mpr ⟨lw_p21, List.forall_mem_cons.mpr ⟨lw_p22, List.forall_mem_cons.mpr ⟨lw_p23, List.forall_mem_cons.mpr ⟨lw_p24, List.forall_mem_cons.mpr ⟨lw_p25, List.forall_mem_cons.mpr ⟨lw_p26, List.forall_mem_cons.mpr ⟨lw_p27, List.forall_mem_cons.mpr ⟨lw_p28, List.forall_mem_cons.mpr ⟨lw_p29, List.forall_mem_cons.mpr ⟨lw_p30, List.forall_mem_cons.mpr ⟨lw_p31, fun _ h => absurd h List.not_mem_nil⟩⟩⟩⟩⟩⟩⟩⟩⟩⟩⟩⟩⟩⟩⟩⟩
theorem lw_p32 : lw_okq (⟨"BuildEngineModel", "amiss", "(II)I"⟩, 29) := ⟨⟨by decide +kernel, by decide +kernel⟩, List.mem_of_getElem? (i := 720) (by decide +kernel), List.mem_of_getElem? (i := 1006) (by decide +kernel), List.mem_of_getElem? (i := 1007) (by decide +kernel)⟩
theorem lw_p33 : lw_okq (⟨"BuildEngineModel", "isTraced", "(II)Z"⟩, 29) := ⟨⟨by decide +kernel, by decide +kernel⟩, List.mem_of_getElem? (i := 720) (by decide +kernel), List.mem_of_getElem? (i := 1018) (by decide +kernel), List.mem_of_getElem? (i := 1019) (by decide +kernel)⟩
theorem lw_p34 : lw_okq (⟨"BuildEngineModel", "having", "(I)I"⟩, 29) := ⟨⟨by decide +kernel, by decide +kernel⟩, List.mem_of_getElem? (i := 720) (by decide +kernel), List.mem_of_getElem? (i := 1047) (by decide +kernel), List.mem_of_getElem? (i := 1048) (by decide +kernel)⟩
def lw_privs_3 : List (MethodName × Nat) := [(⟨"BuildEngineModel", "amiss", "(II)I"⟩, 29), (⟨"BuildEngineModel", "isTraced", "(II)Z"⟩, 29), (⟨"BuildEngineModel", "having", "(I)I"⟩, 29)]
theorem lw_r3 : ∀ q ∈ lw_privs_3, lw_okq q := List.forall_mem_cons.mpr ⟨lw_p32, List.forall_mem_cons.mpr ⟨lw_p33, List.forall_mem_cons.mpr ⟨lw_p34, fun _ h => absurd h List.not_mem_nil⟩⟩⟩
def lw_privs : List (MethodName × Nat) := lw_privs_1 ++ (lw_privs_2 ++ (lw_privs_3))
def lw_tbl : List Cond := k2_sels lw_privs ++ tables_1
theorem lw_privs_ok : ∀ q ∈ lw_privs, lw_okq q := by
  show ∀ q ∈ lw_privs_1 ++ (lw_privs_2 ++ (lw_privs_3)), lw_okq q
  exact List.forall_mem_append.mpr ⟨lw_r1, List.forall_mem_append.mpr ⟨lw_r2, lw_r3⟩⟩
end
section
def RX0 : String := "BuildEngine$Builder"
def TX0 : u_T := fun k => match k with
  | 0 => ("BuildEngine$Builder", "world", "LBuildEngine$World;", true)
  | 1 => ("BuildEngine$Builder", "doneKeys", "[I", true)
  | 2 => ("BuildEngine$Builder", "doneCount", "I", false)
  | 3 => ("BuildEngine$Builder", "done", "I", false)
  | 4 => ("BuildEngine$Builder", "open", "I", false)
  | 5 => ("BuildEngine$Builder", "stoppedBy", "I", false)
  | 6 => ("BuildEngine$Builder", "starts", "I", false)
  | 7 => ("BuildEngine$Builder", "putOffs", "I", false)
  | 8 => ("BuildEngine$Builder", "spared", "I", false)
  | 9 => ("BuildEngine$Builder", "cuts", "I", false)
  | _ => ("BuildEngine$Builder", "wanted", "I", false)
def tyX0 : Nat → FieldType := fun k => match k with
  | 0 => .object "BuildEngine$World"
  | 1 => .array .int
  | 2 => .int
  | 3 => .int
  | 4 => .int
  | 5 => .int
  | 6 => .int
  | 7 => .int
  | 8 => .int
  | 9 => .int
  | _ => .int
abbrev wsX00 : List Cond := u_ws RX0 TX0 11
theorem nmX0 : ∀ a, a < 11 → ∀ b, b < 11 → a ≠ b → (TX0 a).2.1 ≠ (TX0 b).2.1 := by decide +kernel
theorem tyX0_ok : ∀ k, k < 11 → parseFieldDescriptor (TX0 k).2.2.1 = some (tyX0 k) := by decide +kernel
abbrev cX0_init : ByteArray := prog_2_method_1_code
def yX0_init : MethodName := ⟨RX0, "<init>", "()V"⟩
abbrev cX0_forgetBuild : ByteArray := prog_2_method_2_code
def yX0_forgetBuild : MethodName := ⟨RX0, "forgetBuild", "()V"⟩
abbrev cX0_doneAt : ByteArray := prog_2_method_3_code
def yX0_doneAt : MethodName := ⟨RX0, "doneAt", "(I)I"⟩
abbrev cX0_startsFor : ByteArray := prog_2_method_4_code
def yX0_startsFor : MethodName := ⟨RX0, "startsFor", "(I)I"⟩
abbrev cX0_buildEach : ByteArray := prog_2_method_5_code
def yX0_buildEach : MethodName := ⟨RX0, "buildEach", "(IZ)I"⟩
abbrev cX0_buildTarget : ByteArray := prog_2_method_6_code
def yX0_buildTarget : MethodName := ⟨RX0, "buildTarget", "(II)V"⟩
abbrev cX0_noteDone : ByteArray := prog_2_method_7_code
def yX0_noteDone : MethodName := ⟨RX0, "noteDone", "(I)V"⟩
abbrev cX0_isStillSame : ByteArray := prog_2_method_8_code
def yX0_isStillSame : MethodName := ⟨RX0, "isStillSame", "(LBuildEngine$Target;I)Z"⟩
abbrev cX0_runToEnd : ByteArray := prog_2_method_9_code
def yX0_runToEnd : MethodName := ⟨RX0, "runToEnd", "(ILBuildEngine$Target;I)V"⟩
abbrev cX0_runOnce : ByteArray := prog_2_method_10_code
def yX0_runOnce : MethodName := ⟨RX0, "runOnce", "(ILBuildEngine$Target;)LBuildEngine$Result;"⟩
abbrev cX0_resultIfDone : ByteArray := prog_2_method_11_code
def yX0_resultIfDone : MethodName := ⟨RX0, "resultIfDone", "(I)LBuildEngine$Result;"⟩
abbrev cX0_worked : ByteArray := prog_2_method_12_code
def yX0_worked : MethodName := ⟨RX0, "worked", "(IJJ)J"⟩
abbrev cX0_failingSort : ByteArray := prog_2_method_13_code
def yX0_failingSort : MethodName := ⟨RX0, "failingSort", "(IJJJ)I"⟩
abbrev cX0_stepsToPass : ByteArray := prog_2_method_14_code
def yX0_stepsToPass : MethodName := ⟨RX0, "stepsToPass", "(IJI)I"⟩
abbrev cX0_bitOf : ByteArray := prog_2_method_15_code
def yX0_bitOf : MethodName := ⟨RX0, "bitOf", "(I)I"⟩
abbrev cX0_isIn : ByteArray := prog_2_method_16_code
def yX0_isIn : MethodName := ⟨RX0, "isIn", "(II)Z"⟩
def RX1 : String := "BuildEngine$Result"
def TX1 : u_T := fun k => match k with
  | 0 => ("BuildEngine$Result", "content", "I", true)
  | 1 => ("BuildEngine$Result", "key", "I", true)
  | 2 => ("BuildEngine$Result", "sort", "I", true)
  | 3 => ("BuildEngine$Result", "step", "I", true)
  | _ => ("BuildEngine$Result", "cause", "LBuildEngine$Result;", true)
def tyX1 : Nat → FieldType := fun k => match k with
  | 0 => .int
  | 1 => .int
  | 2 => .int
  | 3 => .int
  | _ => .object "BuildEngine$Result"
abbrev wsX10 : List Cond := u_ws RX1 TX1 5
theorem nmX1 : ∀ a, a < 5 → ∀ b, b < 5 → a ≠ b → (TX1 a).2.1 ≠ (TX1 b).2.1 := by decide +kernel
theorem tyX1_ok : ∀ k, k < 5 → parseFieldDescriptor (TX1 k).2.2.1 = some (tyX1 k) := by decide +kernel
abbrev cX1_init : ByteArray := prog_3_method_1_code
def yX1_init : MethodName := ⟨RX1, "<init>", "(IIIILBuildEngine$Result;)V"⟩
abbrev cX1_ofContent : ByteArray := prog_3_method_2_code
def yX1_ofContent : MethodName := ⟨RX1, "ofContent", "(I)LBuildEngine$Result;"⟩
abbrev cX1_ofFailure : ByteArray := prog_3_method_3_code
def yX1_ofFailure : MethodName := ⟨RX1, "ofFailure", "(IIILBuildEngine$Result;)LBuildEngine$Result;"⟩
abbrev cX1_isFailure : ByteArray := prog_3_method_4_code
def yX1_isFailure : MethodName := ⟨RX1, "isFailure", "()Z"⟩
abbrev cX1_asTold : ByteArray := prog_3_method_5_code
def yX1_asTold : MethodName := ⟨RX1, "asTold", "()I"⟩
abbrev cX1_causeCount : ByteArray := prog_3_method_6_code
def yX1_causeCount : MethodName := ⟨RX1, "causeCount", "()I"⟩
abbrev cX1_rootKey : ByteArray := prog_3_method_7_code
def yX1_rootKey : MethodName := ⟨RX1, "rootKey", "()I"⟩
abbrev cX1_isOrComesOfSort : ByteArray := prog_3_method_8_code
def yX1_isOrComesOfSort : MethodName := ⟨RX1, "isOrComesOfSort", "(I)Z"⟩
abbrev cX1_isOrComesOfKey : ByteArray := prog_3_method_9_code
def yX1_isOrComesOfKey : MethodName := ⟨RX1, "isOrComesOfKey", "(I)Z"⟩
abbrev cX1_areSame : ByteArray := prog_3_method_10_code
def yX1_areSame : MethodName := ⟨RX1, "areSame", "(LBuildEngine$Result;LBuildEngine$Result;)Z"⟩
def RX2 : String := "BuildEngine$Row"
def TX2 : u_T := fun k => match k with
  | 0 => ("BuildEngine$Row", "held", "Z", false)
  | 1 => ("BuildEngine$Row", "places", "[J", true)
  | _ => ("BuildEngine$Row", "size", "I", false)
def tyX2 : Nat → FieldType := fun k => match k with
  | 0 => .boolean
  | 1 => .array .long
  | _ => .int
abbrev wsX20 : List Cond := u_ws RX2 TX2 3
theorem nmX2 : ∀ a, a < 3 → ∀ b, b < 3 → a ≠ b → (TX2 a).2.1 ≠ (TX2 b).2.1 := by decide +kernel
theorem tyX2_ok : ∀ k, k < 3 → parseFieldDescriptor (TX2 k).2.2.1 = some (tyX2 k) := by decide +kernel
abbrev cX2_init : ByteArray := prog_4_method_1_code
def yX2_init : MethodName := ⟨RX2, "<init>", "()V"⟩
abbrev cX2_hold : ByteArray := prog_4_method_2_code
def yX2_hold : MethodName := ⟨RX2, "hold", "(I)V"⟩
abbrev cX2_hasPlace : ByteArray := prog_4_method_3_code
def yX2_hasPlace : MethodName := ⟨RX2, "hasPlace", "(I)Z"⟩
abbrev cX2_hasSpan : ByteArray := prog_4_method_4_code
def yX2_hasSpan : MethodName := ⟨RX2, "hasSpan", "(II)Z"⟩
abbrev cX2_read : ByteArray := prog_4_method_5_code
def yX2_read : MethodName := ⟨RX2, "read", "(I)J"⟩
abbrev cX2_write : ByteArray := prog_4_method_6_code
def yX2_write : MethodName := ⟨RX2, "write", "(IJ)Z"⟩
def RX3 : String := "BuildEngine$Tape"
def TX3 : u_T := fun k => match k with
  | 0 => ("BuildEngine$Tape", "letters", "[I", true)
  | _ => ("BuildEngine$Tape", "length", "I", false)
def tyX3 : Nat → FieldType := fun k => match k with
  | 0 => .array .int
  | _ => .int
abbrev wsX30 : List Cond := u_ws RX3 TX3 2
theorem nmX3 : ∀ a, a < 2 → ∀ b, b < 2 → a ≠ b → (TX3 a).2.1 ≠ (TX3 b).2.1 := by decide +kernel
theorem tyX3_ok : ∀ k, k < 2 → parseFieldDescriptor (TX3 k).2.2.1 = some (tyX3 k) := by decide +kernel
abbrev cX3_init : ByteArray := prog_5_method_1_code
def yX3_init : MethodName := ⟨RX3, "<init>", "()V"⟩
abbrev cX3_append : ByteArray := prog_5_method_2_code
def yX3_append : MethodName := ⟨RX3, "append", "(I)Z"⟩
abbrev cX3_empty : ByteArray := prog_5_method_3_code
def yX3_empty : MethodName := ⟨RX3, "empty", "()I"⟩
abbrev cX3_letterAt : ByteArray := prog_5_method_4_code
def yX3_letterAt : MethodName := ⟨RX3, "letterAt", "(I)I"⟩
abbrev cX3_numberAt : ByteArray := prog_5_method_5_code
def yX3_numberAt : MethodName := ⟨RX3, "numberAt", "(I)I"⟩
abbrev cX3_faultAsRule : ByteArray := prog_5_method_6_code
def yX3_faultAsRule : MethodName := ⟨RX3, "faultAsRule", "()I"⟩
abbrev cX3_tellsNoKey : ByteArray := prog_5_method_7_code
def yX3_tellsNoKey : MethodName := ⟨RX3, "tellsNoKey", "(II)Z"⟩
def RX4 : String := "BuildEngine$Target"
def TX4 : u_T := fun k => match k with
  | 0 => ("BuildEngine$Target", "stepCount", "I", false)
  | 1 => ("BuildEngine$Target", "signs", "[I", true)
  | 2 => ("BuildEngine$Target", "figures", "[I", true)
  | 3 => ("BuildEngine$Target", "result", "LBuildEngine$Result;", false)
  | 4 => ("BuildEngine$Target", "traceLength", "I", false)
  | 5 => ("BuildEngine$Target", "tracedKeys", "[I", true)
  | _ => ("BuildEngine$Target", "tracedResults", "[LBuildEngine$Result;", true)
def tyX4 : Nat → FieldType := fun k => match k with
  | 0 => .int
  | 1 => .array .int
  | 2 => .array .int
  | 3 => .object "BuildEngine$Result"
  | 4 => .int
  | 5 => .array .int
  | _ => .array (.object "BuildEngine$Result")
abbrev wsX40 : List Cond := u_ws RX4 TX4 7
theorem nmX4 : ∀ a, a < 7 → ∀ b, b < 7 → a ≠ b → (TX4 a).2.1 ≠ (TX4 b).2.1 := by decide +kernel
theorem tyX4_ok : ∀ k, k < 7 → parseFieldDescriptor (TX4 k).2.2.1 = some (tyX4 k) := by decide +kernel
abbrev cX4_init : ByteArray := prog_6_method_1_code
def yX4_init : MethodName := ⟨RX4, "<init>", "()V"⟩
abbrev cX4_signAt : ByteArray := prog_6_method_2_code
def yX4_signAt : MethodName := ⟨RX4, "signAt", "(I)I"⟩
abbrev cX4_figuresAt : ByteArray := prog_6_method_3_code
def yX4_figuresAt : MethodName := ⟨RX4, "figuresAt", "(I)I"⟩
abbrev cX4_readRule : ByteArray := prog_6_method_4_code
def yX4_readRule : MethodName := ⟨RX4, "readRule", "(LBuildEngine$Tape;)V"⟩
abbrev cX4_takeRule : ByteArray := prog_6_method_5_code
def yX4_takeRule : MethodName := ⟨RX4, "takeRule", "(LBuildEngine$Target;)V"⟩
abbrev cX4_copyRule : ByteArray := prog_6_method_6_code
def yX4_copyRule : MethodName := ⟨RX4, "copyRule", "(LBuildEngine$Target;)V"⟩
abbrev cX4_dropRule : ByteArray := prog_6_method_7_code
def yX4_dropRule : MethodName := ⟨RX4, "dropRule", "()V"⟩
abbrev cX4_hasTrace : ByteArray := prog_6_method_8_code
def yX4_hasTrace : MethodName := ⟨RX4, "hasTrace", "()Z"⟩
abbrev cX4_dropTrace : ByteArray := prog_6_method_9_code
def yX4_dropTrace : MethodName := ⟨RX4, "dropTrace", "()V"⟩
abbrev cX4_startTrace : ByteArray := prog_6_method_10_code
def yX4_startTrace : MethodName := ⟨RX4, "startTrace", "()V"⟩
abbrev cX4_noteInTrace : ByteArray := prog_6_method_11_code
def yX4_noteInTrace : MethodName := ⟨RX4, "noteInTrace", "(ILBuildEngine$Result;)V"⟩
abbrev cX4_traces : ByteArray := prog_6_method_12_code
def yX4_traces : MethodName := ⟨RX4, "traces", "(I)Z"⟩
abbrev cX4_tracedKey : ByteArray := prog_6_method_13_code
def yX4_tracedKey : MethodName := ⟨RX4, "tracedKey", "(I)I"⟩
abbrev cX4_tracedResult : ByteArray := prog_6_method_14_code
def yX4_tracedResult : MethodName := ⟨RX4, "tracedResult", "(I)LBuildEngine$Result;"⟩
abbrev cX4_copyFrom : ByteArray := prog_6_method_15_code
def yX4_copyFrom : MethodName := ⟨RX4, "copyFrom", "(LBuildEngine$Target;)V"⟩
def RX5 : String := "BuildEngine$World"
def TX5 : u_T := fun k => match k with
  | 0 => ("BuildEngine$World", "contents", "[LBuildEngine$Result;", true)
  | 1 => ("BuildEngine$World", "targets", "[LBuildEngine$Target;", true)
  | 2 => ("BuildEngine$World", "empties", "[LBuildEngine$Result;", true)
  | _ => ("BuildEngine$World", "depths", "[I", true)
def tyX5 : Nat → FieldType := fun k => match k with
  | 0 => .array (.object "BuildEngine$Result")
  | 1 => .array (.object "BuildEngine$Target")
  | 2 => .array (.object "BuildEngine$Result")
  | _ => .array .int
abbrev wsX50 : List Cond := u_ws RX5 TX5 4
theorem nmX5 : ∀ a, a < 4 → ∀ b, b < 4 → a ≠ b → (TX5 a).2.1 ≠ (TX5 b).2.1 := by decide +kernel
theorem tyX5_ok : ∀ k, k < 4 → parseFieldDescriptor (TX5 k).2.2.1 = some (tyX5 k) := by decide +kernel
abbrev cX5_init : ByteArray := prog_7_method_1_code
def yX5_init : MethodName := ⟨RX5, "<init>", "()V"⟩
abbrev cX5_targetOf : ByteArray := prog_7_method_2_code
def yX5_targetOf : MethodName := ⟨RX5, "targetOf", "(I)LBuildEngine$Target;"⟩
abbrev cX5_contentOf : ByteArray := prog_7_method_3_code
def yX5_contentOf : MethodName := ⟨RX5, "contentOf", "(I)LBuildEngine$Result;"⟩
abbrev cX5_giveContent : ByteArray := prog_7_method_4_code
def yX5_giveContent : MethodName := ⟨RX5, "giveContent", "(II)Z"⟩
abbrev cX5_takeContent : ByteArray := prog_7_method_5_code
def yX5_takeContent : MethodName := ⟨RX5, "takeContent", "(I)V"⟩
abbrev cX5_emptyOf : ByteArray := prog_7_method_6_code
def yX5_emptyOf : MethodName := ⟨RX5, "emptyOf", "(I)LBuildEngine$Result;"⟩
abbrev cX5_resultOf : ByteArray := prog_7_method_7_code
def yX5_resultOf : MethodName := ⟨RX5, "resultOf", "(I)LBuildEngine$Result;"⟩
abbrev cX5_failureOf : ByteArray := prog_7_method_8_code
def yX5_failureOf : MethodName := ⟨RX5, "failureOf", "(I)LBuildEngine$Result;"⟩
abbrev cX5_toldResult : ByteArray := prog_7_method_9_code
def yX5_toldResult : MethodName := ⟨RX5, "toldResult", "(I)I"⟩
abbrev cX5_targetsFailingBy : ByteArray := prog_7_method_10_code
def yX5_targetsFailingBy : MethodName := ⟨RX5, "targetsFailingBy", "(I)I"⟩
abbrev cX5_targetsTracing : ByteArray := prog_7_method_11_code
def yX5_targetsTracing : MethodName := ⟨RX5, "targetsTracing", "(I)I"⟩
abbrev cX5_targetsUpToDate : ByteArray := prog_7_method_12_code
def yX5_targetsUpToDate : MethodName := ⟨RX5, "targetsUpToDate", "()I"⟩
abbrev cX5_isUpToDate : ByteArray := prog_7_method_13_code
def yX5_isUpToDate : MethodName := ⟨RX5, "isUpToDate", "(LBuildEngine$Target;)Z"⟩
abbrev cX5_depthOf : ByteArray := prog_7_method_14_code
def yX5_depthOf : MethodName := ⟨RX5, "depthOf", "(I)I"⟩
abbrev cX5_deepenAll : ByteArray := prog_7_method_15_code
def yX5_deepenAll : MethodName := ⟨RX5, "deepenAll", "()Z"⟩
abbrev cX5_depthByTrace : ByteArray := prog_7_method_16_code
def yX5_depthByTrace : MethodName := ⟨RX5, "depthByTrace", "(LBuildEngine$Target;)I"⟩
abbrev cX5_unlikeResults : ByteArray := prog_7_method_17_code
def yX5_unlikeResults : MethodName := ⟨RX5, "unlikeResults", "()I"⟩
abbrev cX5_hasSameBelow : ByteArray := prog_7_method_18_code
def yX5_hasSameBelow : MethodName := ⟨RX5, "hasSameBelow", "(I)Z"⟩
abbrev cX5_ruleCount : ByteArray := prog_7_method_19_code
def yX5_ruleCount : MethodName := ⟨RX5, "ruleCount", "()I"⟩
abbrev cX5_traceCount : ByteArray := prog_7_method_20_code
def yX5_traceCount : MethodName := ⟨RX5, "traceCount", "()I"⟩
abbrev cX5_resultCount : ByteArray := prog_7_method_21_code
def yX5_resultCount : MethodName := ⟨RX5, "resultCount", "()I"⟩
abbrev cX5_failureCount : ByteArray := prog_7_method_22_code
def yX5_failureCount : MethodName := ⟨RX5, "failureCount", "()I"⟩
abbrev cX5_copyFrom : ByteArray := prog_7_method_23_code
def yX5_copyFrom : MethodName := ⟨RX5, "copyFrom", "(LBuildEngine$World;)V"⟩
def RX6 : String := "BuildEngine"
def TX6 : u_T := fun k => match k with
  | 0 => ("BuildEngine", "builder", "LBuildEngine$Builder;", true)
  | 1 => ("BuildEngine", "trier", "LBuildEngine$Builder;", true)
  | 2 => ("BuildEngine", "world", "LBuildEngine$World;", true)
  | 3 => ("BuildEngine", "imageWorld", "LBuildEngine$World;", true)
  | 4 => ("BuildEngine", "tape", "LBuildEngine$Tape;", true)
  | 5 => ("BuildEngine", "rows", "[LBuildEngine$Row;", true)
  | _ => ("BuildEngine", "hasImage", "Z", false)
def tyX6 : Nat → FieldType := fun k => match k with
  | 0 => .object "BuildEngine$Builder"
  | 1 => .object "BuildEngine$Builder"
  | 2 => .object "BuildEngine$World"
  | 3 => .object "BuildEngine$World"
  | 4 => .object "BuildEngine$Tape"
  | 5 => .array (.object "BuildEngine$Row")
  | _ => .boolean
abbrev wsX60 : List Cond := u_ws RX6 TX6 7
theorem nmX6 : ∀ a, a < 7 → ∀ b, b < 7 → a ≠ b → (TX6 a).2.1 ≠ (TX6 b).2.1 := by decide +kernel
theorem tyX6_ok : ∀ k, k < 7 → parseFieldDescriptor (TX6 k).2.2.1 = some (tyX6 k) := by decide +kernel
abbrev cX6_init : ByteArray := prog_1_method_1_code
def yX6_init : MethodName := ⟨RX6, "<init>", "()V"⟩
abbrev cX6_give : ByteArray := prog_1_method_2_code
def yX6_give : MethodName := ⟨RX6, "give", "(II)I"⟩
abbrev cX6_take : ByteArray := prog_1_method_3_code
def yX6_take : MethodName := ⟨RX6, "take", "(I)I"⟩
abbrev cX6_feed : ByteArray := prog_1_method_4_code
def yX6_feed : MethodName := ⟨RX6, "feed", "(I)I"⟩
abbrev cX6_clear : ByteArray := prog_1_method_5_code
def yX6_clear : MethodName := ⟨RX6, "clear", "()I"⟩
abbrev cX6_rule : ByteArray := prog_1_method_6_code
def yX6_rule : MethodName := ⟨RX6, "rule", "(I)I"⟩
abbrev cX6_drop : ByteArray := prog_1_method_7_code
def yX6_drop : MethodName := ⟨RX6, "drop", "(I)I"⟩
abbrev cX6_copy : ByteArray := prog_1_method_8_code
def yX6_copy : MethodName := ⟨RX6, "copy", "(II)I"⟩
abbrev cX6_step : ByteArray := prog_1_method_9_code
def yX6_step : MethodName := ⟨RX6, "step", "(II)I"⟩
abbrev cX6_build : ByteArray := prog_1_method_10_code
def yX6_build : MethodName := ⟨RX6, "build", "(I)I"⟩
abbrev cX6_all : ByteArray := prog_1_method_11_code
def yX6_all : MethodName := ⟨RX6, "all", "(I)I"⟩
abbrev cX6_some : ByteArray := prog_1_method_12_code
def yX6_some : MethodName := ⟨RX6, "some", "(II)I"⟩
abbrev cX6_tried : ByteArray := prog_1_method_13_code
def yX6_tried : MethodName := ⟨RX6, "tried", "(III)I"⟩
abbrev cX6_result : ByteArray := prog_1_method_14_code
def yX6_result : MethodName := ⟨RX6, "result", "(I)I"⟩
abbrev cX6_failure : ByteArray := prog_1_method_15_code
def yX6_failure : MethodName := ⟨RX6, "failure", "(III)I"⟩
abbrev cX6_causes : ByteArray := prog_1_method_16_code
def yX6_causes : MethodName := ⟨RX6, "causes", "(I)I"⟩
abbrev cX6_root : ByteArray := prog_1_method_17_code
def yX6_root : MethodName := ⟨RX6, "root", "(I)I"⟩
abbrev cX6_blamed : ByteArray := prog_1_method_18_code
def yX6_blamed : MethodName := ⟨RX6, "blamed", "(I)I"⟩
abbrev cX6_trace : ByteArray := prog_1_method_19_code
def yX6_trace : MethodName := ⟨RX6, "trace", "(II)I"⟩
abbrev cX6_seen : ByteArray := prog_1_method_20_code
def yX6_seen : MethodName := ⟨RX6, "seen", "(II)I"⟩
abbrev cX6_users : ByteArray := prog_1_method_21_code
def yX6_users : MethodName := ⟨RX6, "users", "(I)I"⟩
abbrev cX6_depth : ByteArray := prog_1_method_22_code
def yX6_depth : MethodName := ⟨RX6, "depth", "(I)I"⟩
abbrev cX6_order : ByteArray := prog_1_method_23_code
def yX6_order : MethodName := ⟨RX6, "order", "(I)I"⟩
abbrev cX6_unlike : ByteArray := prog_1_method_24_code
def yX6_unlike : MethodName := ⟨RX6, "unlike", "()I"⟩
abbrev cX6_fresh : ByteArray := prog_1_method_25_code
def yX6_fresh : MethodName := ⟨RX6, "fresh", "()I"⟩
abbrev cX6_forget : ByteArray := prog_1_method_26_code
def yX6_forget : MethodName := ⟨RX6, "forget", "(I)I"⟩
abbrev cX6_told : ByteArray := prog_1_method_27_code
def yX6_told : MethodName := ⟨RX6, "told", "(I)I"⟩
abbrev cX6_list : ByteArray := prog_1_method_28_code
def yX6_list : MethodName := ⟨RX6, "list", "(II)I"⟩
abbrev cX6_put : ByteArray := prog_1_method_29_code
def yX6_put : MethodName := ⟨RX6, "put", "(IIJ)I"⟩
abbrev cX6_get : ByteArray := prog_1_method_30_code
def yX6_get : MethodName := ⟨RX6, "get", "(II)J"⟩
abbrev cX6_move : ByteArray := prog_1_method_31_code
def yX6_move : MethodName := ⟨RX6, "move", "(IIIII)I"⟩
abbrev cX6_lay : ByteArray := prog_1_method_32_code
def yX6_lay : MethodName := ⟨RX6, "lay", "(II)I"⟩
abbrev cX6_judge : ByteArray := prog_1_method_33_code
def yX6_judge : MethodName := ⟨RX6, "judge", "(II)I"⟩
abbrev cX6_image : ByteArray := prog_1_method_34_code
def yX6_image : MethodName := ⟨RX6, "image", "()I"⟩
abbrev cX6_undo : ByteArray := prog_1_method_35_code
def yX6_undo : MethodName := ⟨RX6, "undo", "()I"⟩
abbrev cX6_rowOf : ByteArray := prog_1_method_36_code
def yX6_rowOf : MethodName := ⟨RX6, "rowOf", "(I)LBuildEngine$Row;"⟩
abbrev cX6_isInput : ByteArray := prog_1_method_37_code
def yX6_isInput : MethodName := ⟨RX6, "isInput", "(I)Z"⟩
abbrev cX6_isTarget : ByteArray := prog_1_method_38_code
def yX6_isTarget : MethodName := ⟨RX6, "isTarget", "(I)Z"⟩
abbrev cX6_isKey : ByteArray := prog_1_method_39_code
def yX6_isKey : MethodName := ⟨RX6, "isKey", "(I)Z"⟩
abbrev cX6_isContent : ByteArray := prog_1_method_40_code
def yX6_isContent : MethodName := ⟨RX6, "isContent", "(J)Z"⟩
abbrev cX6_isStops : ByteArray := prog_1_method_41_code
def yX6_isStops : MethodName := ⟨RX6, "isStops", "(I)Z"⟩
abbrev cX6_asksForKey : ByteArray := prog_1_method_42_code
def yX6_asksForKey : MethodName := ⟨RX6, "asksForKey", "(I)Z"⟩
abbrev cX6_isSign : ByteArray := prog_1_method_43_code
def yX6_isSign : MethodName := ⟨RX6, "isSign", "(I)Z"⟩
abbrev cX6_isFigure : ByteArray := prog_1_method_44_code
def yX6_isFigure : MethodName := ⟨RX6, "isFigure", "(I)Z"⟩
def RX7 : String := "BuildEngineModel"
def TX7 : u_T := fun k => match k with
  | 0 => ("BuildEngineModel", "failedKey", "[I", true)
  | 1 => ("BuildEngineModel", "failedSort", "[I", true)
  | 2 => ("BuildEngineModel", "failedStep", "[I", true)
  | 3 => ("BuildEngineModel", "failedBy", "[I", true)
  | 4 => ("BuildEngineModel", "failures", "I", false)
  | 5 => ("BuildEngineModel", "now", "[I", true)
  | 6 => ("BuildEngineModel", "then", "[I", true)
  | 7 => ("BuildEngineModel", "ahead", "[I", true)
  | 8 => ("BuildEngineModel", "kept", "Z", false)
  | 9 => ("BuildEngineModel", "tape", "[I", true)
  | 10 => ("BuildEngineModel", "length", "I", false)
  | 11 => ("BuildEngineModel", "done", "[Z", true)
  | 12 => ("BuildEngineModel", "building", "[Z", true)
  | 13 => ("BuildEngineModel", "order", "[I", true)
  | 14 => ("BuildEngineModel", "ordered", "I", false)
  | 15 => ("BuildEngineModel", "stoppedBy", "I", false)
  | 16 => ("BuildEngineModel", "starts", "I", false)
  | 17 => ("BuildEngineModel", "putOffs", "I", false)
  | 18 => ("BuildEngineModel", "spared", "I", false)
  | 19 => ("BuildEngineModel", "cuts", "I", false)
  | 20 => ("BuildEngineModel", "asked", "[I", true)
  | 21 => ("BuildEngineModel", "saw", "[I", true)
  | 22 => ("BuildEngineModel", "askedMany", "I", false)
  | 23 => ("BuildEngineModel", "wasDone", "[Z", true)
  | 24 => ("BuildEngineModel", "wasOrder", "[I", true)
  | 25 => ("BuildEngineModel", "depths", "[I", true)
  | 26 => ("BuildEngineModel", "sizes", "[I", true)
  | 27 => ("BuildEngineModel", "items", "[J", true)
  | _ => ("BuildEngineModel", "moved", "[J", true)
def tyX7 : Nat → FieldType := fun k => match k with
  | 0 => .array .int
  | 1 => .array .int
  | 2 => .array .int
  | 3 => .array .int
  | 4 => .int
  | 5 => .array .int
  | 6 => .array .int
  | 7 => .array .int
  | 8 => .boolean
  | 9 => .array .int
  | 10 => .int
  | 11 => .array .boolean
  | 12 => .array .boolean
  | 13 => .array .int
  | 14 => .int
  | 15 => .int
  | 16 => .int
  | 17 => .int
  | 18 => .int
  | 19 => .int
  | 20 => .array .int
  | 21 => .array .int
  | 22 => .int
  | 23 => .array .boolean
  | 24 => .array .int
  | 25 => .array .int
  | 26 => .array .int
  | 27 => .array .long
  | _ => .array .long
abbrev wsX70 : List Cond := u_ws RX7 TX7 29
theorem nmX7 : ∀ a, a < 29 → ∀ b, b < 29 → a ≠ b → (TX7 a).2.1 ≠ (TX7 b).2.1 := by decide +kernel
theorem tyX7_ok : ∀ k, k < 29 → parseFieldDescriptor (TX7 k).2.2.1 = some (tyX7 k) := by decide +kernel
abbrev cX7_isIn : ByteArray := prog_9_method_1_code
def yX7_isIn : MethodName := ⟨RX7, "isIn", "(JJJ)Z"⟩
abbrev cX7_isInput : ByteArray := prog_9_method_2_code
def yX7_isInput : MethodName := ⟨RX7, "isInput", "(I)Z"⟩
abbrev cX7_isTarget : ByteArray := prog_9_method_3_code
def yX7_isTarget : MethodName := ⟨RX7, "isTarget", "(I)Z"⟩
abbrev cX7_isKey : ByteArray := prog_9_method_4_code
def yX7_isKey : MethodName := ⟨RX7, "isKey", "(I)Z"⟩
abbrev cX7_numberResult : ByteArray := prog_9_method_5_code
def yX7_numberResult : MethodName := ⟨RX7, "numberResult", "(I)I"⟩
abbrev cX7_fails : ByteArray := prog_9_method_6_code
def yX7_fails : MethodName := ⟨RX7, "fails", "(IIII)I"⟩
abbrev cX7_isFailure : ByteArray := prog_9_method_7_code
def yX7_isFailure : MethodName := ⟨RX7, "isFailure", "(I)Z"⟩
abbrev cX7_numberOf : ByteArray := prog_9_method_8_code
def yX7_numberOf : MethodName := ⟨RX7, "numberOf", "(I)I"⟩
abbrev cX7_toldOf : ByteArray := prog_9_method_9_code
def yX7_toldOf : MethodName := ⟨RX7, "toldOf", "(I)I"⟩
abbrev cX7_init : ByteArray := prog_9_method_10_code
def yX7_init : MethodName := ⟨RX7, "<init>", "()V"⟩
abbrev cX7_pours : ByteArray := prog_9_method_11_code
def yX7_pours : MethodName := ⟨RX7, "pours", "([I[I)V"⟩
abbrev cX7_ruled : ByteArray := prog_9_method_12_code
def yX7_ruled : MethodName := ⟨RX7, "ruled", "(II)I"⟩
abbrev cX7_traceAt : ByteArray := prog_9_method_13_code
def yX7_traceAt : MethodName := ⟨RX7, "traceAt", "(I)I"⟩
abbrev cX7_traced : ByteArray := prog_9_method_14_code
def yX7_traced : MethodName := ⟨RX7, "traced", "(I)I"⟩
abbrev cX7_has : ByteArray := prog_9_method_15_code
def yX7_has : MethodName := ⟨RX7, "has", "(I)I"⟩
abbrev cX7_give : ByteArray := prog_9_method_16_code
def yX7_give : MethodName := ⟨RX7, "give", "(II)I"⟩
abbrev cX7_take : ByteArray := prog_9_method_17_code
def yX7_take : MethodName := ⟨RX7, "take", "(I)I"⟩
abbrev cX7_feed : ByteArray := prog_9_method_18_code
def yX7_feed : MethodName := ⟨RX7, "feed", "(I)I"⟩
abbrev cX7_clear : ByteArray := prog_9_method_19_code
def yX7_clear : MethodName := ⟨RX7, "clear", "()I"⟩
abbrev cX7_isAsking : ByteArray := prog_9_method_20_code
def yX7_isAsking : MethodName := ⟨RX7, "isAsking", "(I)Z"⟩
abbrev cX7_isSign : ByteArray := prog_9_method_21_code
def yX7_isSign : MethodName := ⟨RX7, "isSign", "(I)Z"⟩
abbrev cX7_isFigure : ByteArray := prog_9_method_22_code
def yX7_isFigure : MethodName := ⟨RX7, "isFigure", "(I)Z"⟩
abbrev cX7_fault : ByteArray := prog_9_method_23_code
def yX7_fault : MethodName := ⟨RX7, "fault", "()I"⟩
abbrev cX7_rule : ByteArray := prog_9_method_24_code
def yX7_rule : MethodName := ⟨RX7, "rule", "(I)I"⟩
abbrev cX7_drop : ByteArray := prog_9_method_25_code
def yX7_drop : MethodName := ⟨RX7, "drop", "(I)I"⟩
abbrev cX7_copy : ByteArray := prog_9_method_26_code
def yX7_copy : MethodName := ⟨RX7, "copy", "(II)I"⟩
abbrev cX7_step : ByteArray := prog_9_method_27_code
def yX7_step : MethodName := ⟨RX7, "step", "(II)I"⟩
abbrev cX7_isDone : ByteArray := prog_9_method_28_code
def yX7_isDone : MethodName := ⟨RX7, "isDone", "(I)Z"⟩
abbrev cX7_finishes : ByteArray := prog_9_method_29_code
def yX7_finishes : MethodName := ⟨RX7, "finishes", "(I)V"⟩
abbrev cX7_builds : ByteArray := prog_9_method_30_code
def yX7_builds : MethodName := ⟨RX7, "builds", "(I)V"⟩
abbrev cX7_isAsSeen : ByteArray := prog_9_method_31_code
def yX7_isAsSeen : MethodName := ⟨RX7, "isAsSeen", "(I)Z"⟩
abbrev cX7_notes : ByteArray := prog_9_method_32_code
def yX7_notes : MethodName := ⟨RX7, "notes", "(II)V"⟩
abbrev cX7_isOfRing : ByteArray := prog_9_method_33_code
def yX7_isOfRing : MethodName := ⟨RX7, "isOfRing", "(I)Z"⟩
abbrev cX7_runs : ByteArray := prog_9_method_34_code
def yX7_runs : MethodName := ⟨RX7, "runs", "(I)I"⟩
abbrev cX7_goes : ByteArray := prog_9_method_35_code
def yX7_goes : MethodName := ⟨RX7, "goes", "(I)I"⟩
abbrev cX7_manyDone : ByteArray := prog_9_method_36_code
def yX7_manyDone : MethodName := ⟨RX7, "manyDone", "()I"⟩
abbrev cX7_built : ByteArray := prog_9_method_37_code
def yX7_built : MethodName := ⟨RX7, "built", "(IZ)I"⟩
abbrev cX7_build : ByteArray := prog_9_method_38_code
def yX7_build : MethodName := ⟨RX7, "build", "(I)I"⟩
abbrev cX7_all : ByteArray := prog_9_method_39_code
def yX7_all : MethodName := ⟨RX7, "all", "(I)I"⟩
abbrev cX7_some : ByteArray := prog_9_method_40_code
def yX7_some : MethodName := ⟨RX7, "some", "(II)I"⟩
abbrev cX7_tried : ByteArray := prog_9_method_41_code
def yX7_tried : MethodName := ⟨RX7, "tried", "(III)I"⟩
abbrev cX7_result : ByteArray := prog_9_method_42_code
def yX7_result : MethodName := ⟨RX7, "result", "(I)I"⟩
abbrev cX7_causeOf : ByteArray := prog_9_method_43_code
def yX7_causeOf : MethodName := ⟨RX7, "causeOf", "(II)I"⟩
abbrev cX7_failure : ByteArray := prog_9_method_44_code
def yX7_failure : MethodName := ⟨RX7, "failure", "(III)I"⟩
abbrev cX7_causes : ByteArray := prog_9_method_45_code
def yX7_causes : MethodName := ⟨RX7, "causes", "(I)I"⟩
abbrev cX7_root : ByteArray := prog_9_method_46_code
def yX7_root : MethodName := ⟨RX7, "root", "(I)I"⟩
abbrev cX7_blamed : ByteArray := prog_9_method_47_code
def yX7_blamed : MethodName := ⟨RX7, "blamed", "(I)I"⟩
abbrev cX7_amiss : ByteArray := prog_9_method_48_code
def yX7_amiss : MethodName := ⟨RX7, "amiss", "(II)I"⟩
abbrev cX7_trace : ByteArray := prog_9_method_49_code
def yX7_trace : MethodName := ⟨RX7, "trace", "(II)I"⟩
abbrev cX7_seen : ByteArray := prog_9_method_50_code
def yX7_seen : MethodName := ⟨RX7, "seen", "(II)I"⟩
abbrev cX7_isTraced : ByteArray := prog_9_method_51_code
def yX7_isTraced : MethodName := ⟨RX7, "isTraced", "(II)Z"⟩
abbrev cX7_users : ByteArray := prog_9_method_52_code
def yX7_users : MethodName := ⟨RX7, "users", "(I)I"⟩
abbrev cX7_depth : ByteArray := prog_9_method_53_code
def yX7_depth : MethodName := ⟨RX7, "depth", "(I)I"⟩
abbrev cX7_order : ByteArray := prog_9_method_54_code
def yX7_order : MethodName := ⟨RX7, "order", "(I)I"⟩
abbrev cX7_unlike : ByteArray := prog_9_method_55_code
def yX7_unlike : MethodName := ⟨RX7, "unlike", "()I"⟩
abbrev cX7_fresh : ByteArray := prog_9_method_56_code
def yX7_fresh : MethodName := ⟨RX7, "fresh", "()I"⟩
abbrev cX7_forget : ByteArray := prog_9_method_57_code
def yX7_forget : MethodName := ⟨RX7, "forget", "(I)I"⟩
abbrev cX7_having : ByteArray := prog_9_method_58_code
def yX7_having : MethodName := ⟨RX7, "having", "(I)I"⟩
abbrev cX7_told : ByteArray := prog_9_method_59_code
def yX7_told : MethodName := ⟨RX7, "told", "(I)I"⟩
abbrev cX7_isList : ByteArray := prog_9_method_60_code
def yX7_isList : MethodName := ⟨RX7, "isList", "(I)Z"⟩
abbrev cX7_list : ByteArray := prog_9_method_61_code
def yX7_list : MethodName := ⟨RX7, "list", "(II)I"⟩
abbrev cX7_put : ByteArray := prog_9_method_62_code
def yX7_put : MethodName := ⟨RX7, "put", "(IIJ)I"⟩
abbrev cX7_get : ByteArray := prog_9_method_63_code
def yX7_get : MethodName := ⟨RX7, "get", "(II)J"⟩
abbrev cX7_move : ByteArray := prog_9_method_64_code
def yX7_move : MethodName := ⟨RX7, "move", "(IIIII)I"⟩
abbrev cX7_lay : ByteArray := prog_9_method_65_code
def yX7_lay : MethodName := ⟨RX7, "lay", "(II)I"⟩
abbrev cX7_judge : ByteArray := prog_9_method_66_code
def yX7_judge : MethodName := ⟨RX7, "judge", "(II)I"⟩
abbrev cX7_image : ByteArray := prog_9_method_67_code
def yX7_image : MethodName := ⟨RX7, "image", "()I"⟩
abbrev cX7_undo : ByteArray := prog_9_method_68_code
def yX7_undo : MethodName := ⟨RX7, "undo", "()I"⟩
def RJ9 : String := "java/lang/Math"
abbrev cJ9_max_7cf53 : ByteArray := prog_10_method_65_code
def yJ9_max_7cf53 : MethodName := ⟨RJ9, "max", "(II)I"⟩
abbrev cJ9_min_7cf53 : ByteArray := prog_10_method_69_code
def yJ9_min_7cf53 : MethodName := ⟨RJ9, "min", "(II)I"⟩
def RJ10 : String := "java/lang/System"
def RJ7 : String := "java/util/Arrays"
abbrev cJ7_fill_d0a16 : ByteArray := prog_12_method_101_code
def yJ7_fill_d0a16 : MethodName := ⟨RJ7, "fill", "([JJ)V"⟩
abbrev cJ7_fill_53178 : ByteArray := prog_12_method_103_code
def yJ7_fill_53178 : MethodName := ⟨RJ7, "fill", "([II)V"⟩
def RL : String := "BuildEngineLaw"
abbrev cL_law : ByteArray := code
def yL_law : MethodName := ⟨RL, "law", "([I)Z"⟩
end
section
/-! A method's run, over a heap told as a function of addresses. pm_H: the next address, the slots made, what the cells hold. -/
abbrev pm_M : Type := MethodName × ByteArray × Nat × Option FieldType
abbrev pm_H : Type := Nat × Nat × (Nat → Option va_E)
abbrev pm_Ls : Type := List (Option Value)
def pm_cl : List vw_C := [(RX0, TX0, 11), (RX1, TX1, 5), (RX2, TX2, 3), (RX3, TX3, 2), (RX4, TX4, 7), (RX5, TX5, 4), (RX6, TX6, 7), (RX7, TX7, 29)]
/-- the types of arrays by numbers -/
def pm_ty : Nat → FieldType := fun t => match t with
  | 0 => .int
  | 1 => .long
  | 2 => .boolean
  | 3 => .object RX1
  | 4 => .object RX4
  | _ => .object RX2
abbrev pm_ia (t n : Nat) (f : Nat → Int32) : va_E := .inl (t, n, .inl f)
abbrev pm_la (n : Nat) (f : Nat → Int64) : va_E := .inl (1, n, .inr (.inl f))
abbrev pm_qa (t n : Nat) (f : Nat → Option Nat) : va_E := .inl (t, n, .inr (.inr (.inr (.inr f))))
abbrev pm_ob (ci : Nat) (fs : List Value) : va_E := .inr (ci, fs)
/-- a cell of ours lies from B on; the script (type 9) ahead of B, and is only read -/
def pm_at (B : Nat) (D : va_G) (s : State) (a : Nat) (e : va_E) (H : Heap) : Prop := match e with
  | .inl (t, x) => if t = 9 then a < B ∧ ∃ (L : Nat) (xs : Nat → Int32), x = (L, .inl xs) ∧ va_X a L xs s H
    else B ≤ a ∧ ∃ cA : ClassId, ArrOfT s cA (pm_ty t) ∧ va_RA s cA (pm_ty t) ∧ H[a]? = some (vp_cell cA x)
  | .inr o => B ≤ a ∧ va_at D pm_cl (a, .inr o) H
def pm_R (B : Nat) (D : va_G) (s : State) (H : Heap) (h : pm_H) : Prop := H.size = h.1 ∧ B ≤ h.1 ∧ ∀ (a : Nat) (e : va_E), h.2.2 a = some e → pm_at B D s a e H
theorem pm_at.lt {B : Nat} {D : va_G} {s : State} {a : Nat} {e : va_E} {H : Heap} (h : pm_at B D s a e H) : a < H.size := by
  rcases e with ⟨t, x⟩ | q
  · unfold pm_at at h
    dsimp only at h
    split at h
    · obtain ⟨-, L, xs, -, scr, h1, -⟩ := h
      exact (Array.getElem?_eq_some_iff.mp h1).1
    · obtain ⟨-, cA, -, -, h1⟩ := h
      exact (Array.getElem?_eq_some_iff.mp h1).1
  · exact va_at.lt (D := D) (cl := pm_cl) (q := (a, .inr q)) h.2
theorem pm_at.kept {B : Nat} {D : va_G} {s : State} {a : Nat} {e : va_E} {H H1 : Heap} (h : pm_at B D s a e H) (hq : H1[a]? = H[a]?) : pm_at B D s a e H1 := by
  rcases e with ⟨t, x⟩ | q
  · unfold pm_at at h ⊢
    dsimp only at h ⊢
    split at h
    · next ht =>
      rw [if_pos ht]
      obtain ⟨h0, L, xs, hx, hX⟩ := h
      exact ⟨h0, L, xs, hx, hX.kept hq⟩
    · next ht =>
      rw [if_neg ht]
      obtain ⟨h0, cA, h1, h2, h3⟩ := h
      exact ⟨h0, cA, h1, h2, hq.trans h3⟩
  · exact ⟨h.1, va_at.kept (q := (a, .inr q)) h.2 hq⟩
theorem pm_at.moved {B : Nat} {D : va_G} {u U : State} (hvm : u.vm.Alike U.vm) {a : Nat} {e : va_E} {H : Heap} (h : pm_at B D u a e H) : pm_at B D U a e H := by
  rcases e with ⟨t, x⟩ | q
  · unfold pm_at at h ⊢
    dsimp only at h ⊢
    split at h
    · next ht =>
      rw [if_pos ht]
      obtain ⟨h0, L, xs, hx, hX⟩ := h
      exact ⟨h0, L, xs, hx, hX.moved hvm⟩
    · next ht =>
      rw [if_neg ht]
      obtain ⟨h0, cA, h1, h2, h3⟩ := h
      exact ⟨h0, cA, arrOfT_moved hvm h1, h2.moved hvm, h3⟩
  · exact h
theorem pm_R.moved {B : Nat} {D : va_G} {u U : State} (hvm : u.vm.Alike U.vm) {H : Heap} {h : pm_H} (hR : pm_R B D u H h) : pm_R B D U H h := ⟨hR.1, hR.2.1, fun a e he => (hR.2.2 a e he).moved hvm⟩
theorem pm_R.set {B : Nat} {D : va_G} {s : State} {H H1 : Heap} {n w a : Nat} {f : Nat → Option va_E} {e : va_E} (hR : pm_R B D s H (n, w, f)) (he : pm_at B D s a e H1) (hz : H1.size = H.size) (hq : ∀ q : Nat, q ≠ a → H1[q]? = H[q]?) : pm_R B D s H1 (n, w, va_up f a (some e)) := by
  refine ⟨hz.trans hR.1, hR.2.1, fun b e' hb => ?_⟩
  by_cases hba : b = a
  · subst hba
    rw [show (n, w, va_up f b (some e)).2.2 b = some e from va_up_self f b _] at hb
    cases hb
    exact he
  · rw [show (n, w, va_up f a (some e)).2.2 b = f b from va_up_ne f _ hba] at hb
    exact (hR.2.2 b e' hb).kept (hq b hba)
theorem pm_R.push {B : Nat} {D : va_G} {s : State} {H H1 : Heap} {n w w1 : Nat} {f : Nat → Option va_E} {e : va_E} (hR : pm_R B D s H (n, w, f)) (he : pm_at B D s n e H1) (hz : H1.size = n + 1) (hq : ∀ q : Nat, q < n → H1[q]? = H[q]?) : pm_R B D s H1 (n + 1, w1, va_up f n (some e)) := by
  refine ⟨hz, Nat.le_succ_of_le hR.2.1, fun b e' hb => ?_⟩
  by_cases hba : b = n
  · subst hba
    rw [show (b + 1, w1, va_up f b (some e)).2.2 b = some e from va_up_self f b _] at hb
    cases hb
    exact he
  · rw [show (n + 1, w1, va_up f n (some e)).2.2 b = f b from va_up_ne f _ hba] at hb
    have h1 := hR.2.2 b e' hb
    have h2 := h1.lt
    rw [hR.1] at h2
    exact h1.kept (hq b h2)
/-! the locals: a list of places -/
def pm_L (lsA : Array Slot) (nL : Nat) (ls : pm_Ls) : Prop := lsA.size = nL ∧ lv_wf lsA ∧ ls.length = nL ∧ ∀ (i : Nat) (v : Value), ls[i]? = some (some v) → lsA[i]? = some (.val v)
def pm_lv (ls : pm_Ls) : List (Nat × Value) := (List.range ls.length).filterMap (fun j => (ls.getD j none).map (fun v => (j, v)))
theorem pm_lv_mem {ls : pm_Ls} {j : Nat} {v : Value} : (j, v) ∈ pm_lv ls ↔ ls[j]? = some (some v) := by
  unfold pm_lv
  rw [List.mem_filterMap]
  constructor
  · rintro ⟨k, hk, he⟩
    rw [List.mem_range] at hk
    rw [List.getD_eq_getElem?_getD] at he
    cases hg : ls[k]? with
    | none => rw [hg] at he; simp at he
    | some z =>
      rw [hg] at he
      cases z with
      | none => simp at he
      | some u =>
        simp at he
        obtain ⟨h1, h2⟩ := he
        subst h1; subst h2
        exact hg
  · intro h
    refine ⟨j, List.mem_range.mpr (List.getElem?_eq_some_iff.mp h).1, ?_⟩
    rw [List.getD_eq_getElem?_getD, h]
    rfl
theorem pm_L.has {lsA : Array Slot} {nL : Nat} {ls : pm_Ls} (h : pm_L lsA nL ls) : lv_has lsA nL (pm_lv ls) := ⟨h.1, h.2.1, fun q hq => h.2.2.2 q.1 q.2 (pm_lv_mem.mp hq)⟩
def pm_nl : Option Value → Bool := fun v => match v with
  | some (.long _) => false
  | some (.double _) => false
  | _ => true
theorem pm_nl_cat {v : Value} (h : pm_nl (some v) = true) : ¬ v.category = 2 := by
  cases v <;> simp [pm_nl, Value.category] at h ⊢
/-- a value of one slot at place i -/
theorem pm_L.put1 {lsA lsB : Array Slot} {nL i : Nat} {v : Value} {ls : pm_Ls} (h : pm_L lsA nL ls) (hn : ∀ z, 0 < i → ls[i - 1]? = some z → pm_nl z = true)
    (hB : lv_has lsB nL ((i, v) :: (pm_lv ls).filter (fun q => !(q.1 == i) && !(q.1 + 1 == i && q.2.category == 2)))) : pm_L lsB nL (ls.set i (some v)) := by
  refine ⟨hB.1, hB.2.1, by rw [List.length_set]; exact h.2.2.1, fun j u hj => ?_⟩
  by_cases hji : i = j
  · subst hji
    rw [List.getElem?_set] at hj
    simp only [if_true] at hj
    split at hj
    · cases hj
      exact hB.2.2 (i, v) List.mem_cons_self
    · cases hj
  · rw [List.getElem?_set_ne hji] at hj
    refine hB.2.2 (j, u) (List.mem_cons_of_mem _ (List.mem_filter.mpr ⟨pm_lv_mem.mpr hj, ?_⟩))
    have h1 : (j == i) = false := by simp; exact fun e => hji e.symm
    simp only [h1, Bool.not_false, Bool.true_and]
    by_cases hj1 : j + 1 = i
    · have h2 := hn (some u) (by omega) (by rw [show i - 1 = j by omega]; exact hj)
      have h3 := pm_nl_cat h2
      have h4 : (u.category == 2) = false := by simp; exact h3
      simp [h4]
    · have h4 : (j + 1 == i) = false := by simp; exact hj1
      simp [h4]
/-- a long at place i -/
theorem pm_L.put2 {lsA lsB : Array Slot} {nL i : Nat} {v : Value} {ls : pm_Ls} (h : pm_L lsA nL ls) (hn : ∀ z, 0 < i → ls[i - 1]? = some z → pm_nl z = true)
    (hB : lv_has lsB nL ((i, v) :: (pm_lv ls).filter (fun q => !(q.1 == i) && (!(q.1 == i + 1) && !(q.1 + 1 == i && q.2.category == 2))))) : pm_L lsB nL ((ls.set i (some v)).set (i + 1) none) := by
  refine ⟨hB.1, hB.2.1, by rw [List.length_set, List.length_set]; exact h.2.2.1, fun j u hj => ?_⟩
  by_cases hj2 : i + 1 = j
  · subst hj2
    rw [List.getElem?_set] at hj
    simp only [if_true] at hj
    split at hj <;> cases hj
  rw [List.getElem?_set_ne hj2] at hj
  by_cases hji : i = j
  · subst hji
    rw [List.getElem?_set] at hj
    simp only [if_true] at hj
    split at hj
    · cases hj
      exact hB.2.2 (i, v) List.mem_cons_self
    · cases hj
  · rw [List.getElem?_set_ne hji] at hj
    refine hB.2.2 (j, u) (List.mem_cons_of_mem _ (List.mem_filter.mpr ⟨pm_lv_mem.mpr hj, ?_⟩))
    have h1 : (j == i) = false := by simp; exact fun e => hji e.symm
    have h1b : (j == i + 1) = false := by simp; exact fun e => hj2 e.symm
    simp only [h1, h1b, Bool.not_false, Bool.true_and]
    by_cases hj1 : j + 1 = i
    · have h2 := hn (some u) (by omega) (by rw [show i - 1 = j by omega]; exact hj)
      have h3 := pm_nl_cat h2
      have h4 : (u.category == 2) = false := by simp; exact h3
      simp [h4]
    · have h4 : (j + 1 == i) = false := by simp; exact hj1
      simp [h4]
def pm_sl : List Value → pm_Ls
  | [] => []
  | v :: r => if v.category = 2 then some v :: none :: pm_sl r else some v :: pm_sl r
def pm_ent (n : Nat) (vs : List Value) : pm_Ls := pm_sl vs ++ List.replicate (n - (pm_sl vs).length) none
theorem pm_sl_len (vs : List Value) : (pm_sl vs).length = (lg_sl vs).length := by
  induction vs with
  | nil => rfl
  | cons v r ih =>
    unfold pm_sl
    unfold lg_sl at ih ⊢
    rw [List.flatMap_cons]
    split <;> simp [ih] <;> omega
theorem pm_sl_args : ∀ (vs : List Value) (k i : Nat) (v : Value), (pm_sl vs)[i]? = some (some v) → (k + i, v) ∈ lv_args k vs
  | [], k, i, v, h => by simp [pm_sl] at h
  | u :: r, k, i, v, h => by
    unfold pm_sl at h
    unfold lv_args
    split at h
    · next hc =>
      rw [if_pos hc]
      match i with
      | 0 => simp at h; subst h; simp
      | 1 => simp at h
      | j + 2 =>
        simp at h
        have := pm_sl_args r (k + 2) j v h
        rw [show k + 2 + j = k + (j + 2) by omega] at this
        exact List.mem_cons_of_mem _ this
    · next hc =>
      rw [if_neg hc]
      match i with
      | 0 => simp at h; subst h; simp
      | j + 1 =>
        simp at h
        have := pm_sl_args r (k + 1) j v h
        rw [show k + 1 + j = k + (j + 1) by omega] at this
        exact List.mem_cons_of_mem _ this
theorem pm_L.entry (vs : List Value) {n : Nat} (h : (pm_sl vs).length ≤ n) : pm_L ((lg_sl vs ++ List.replicate (n - (lg_sl vs).length) Slot.unset).toArray) n (pm_ent n vs) := by
  obtain ⟨h1, h2, h3⟩ := lv_entry vs (n := n) (by rw [← pm_sl_len]; exact h)
  refine ⟨h1, h2, by simp [pm_ent]; omega, fun i v hi => ?_⟩
  unfold pm_ent at hi
  by_cases hl : i < (pm_sl vs).length
  · rw [List.getElem?_append_left hl] at hi
    have := pm_sl_args vs 0 i v hi
    rw [Nat.zero_add] at this
    exact h3 (i, v) this
  · rw [List.getElem?_append_right (by omega), List.getElem?_replicate] at hi
    split at hi <;> cases hi
/-! what the tables say, kept while the program runs -/
def pm_K (D : va_G) (s : State) : Prop := va_K D pm_cl [] s ∧ (∀ (own : String) (i : Nat) (x : MethodName) (host : String), Cond.methodLinkNest own i x host ∈ lw_tbl → va_Nw (.methodLinkNest own i x host) s) ∧ (∀ C : String, Cond.arrayOver (.object C) ∈ lw_tbl → va_AO C s)
theorem pm_K.warm {D : va_G} {s U : State} (hW : s.WarmedH U.vm) (h : pm_K D s) : pm_K D U := ⟨va_K.moved hW.alike h.1, fun own i x host hm => va_Nw.warmM hW (h.2.1 own i x host hm), fun C hm => va_AO.moved hW.alike (h.2.2 C hm)⟩
theorem pm_K.same {D : va_G} {s U : State} (hv : s.vm = U.vm) (h : pm_K D s) : pm_K D U := ⟨va_K.moved (by rw [hv]; exact Vm.Alike.refl U.vm) h.1, fun own i x host hm => va_Nw.same rfl hv (h.2.1 own i x host hm), fun C hm => va_AO.moved (by rw [hv]; exact Vm.Alike.refl U.vm) (h.2.2 C hm)⟩
def pm_gw : List Cond := lw_tbl.filter goodWord
def pm_ws (μ : pm_M) : List Cond := Cond.code μ.1 μ.2.1 μ.2.2.1 μ.2.2.2 :: pm_gw
def pm_rm (d mc ms : Nat) : Room := { frames := d, cells := mc, slots := ms, locals := 40 * d }
/-- what a frame of a method stands on -/
def pm_cx (D : va_G) (d : Nat) (μ : pm_M) (p : Program) (R : Room) (s : State) (m : MethodId) (args : Array Value) (meth : Method) (c : Code) : Prop :=
  p.tables.exec = Jvm.exec ∧ c.code = μ.2.1 ∧ meth.sig.returnType = μ.2.2.2 ∧ c.maxLocals = μ.2.2.1 ∧ s.vm.findClass μ.1.cls = some m.cls ∧ (∀ w ∈ pm_gw, w.before args s = true) ∧ meth.locks = false ∧ (μ.1.name = "<init>" → meth.name = "<init>") ∧ pm_K D s ∧ d ≤ R.frames ∧ 40 * d ≤ R.locals
def pm_ret : Option FieldType → Instr := fun t => match t with
  | none => .return_
  | some .long => .lreturn
  | some (.object _) => .areturn
  | some (.array _) => .areturn
  | some _ => .ireturn
def pm_end (B : Nat) (D : va_G) (μ : pm_M) (r : Option Value) (h1 : pm_H) (p : Program) (l : Launch) (e : Env) (R : Room) (s : State) (m : MethodId) (args : Array Value) (below : List Frame) (meth : Method) (c : Code) (n0 w0 : Nat) (Q : State → Prop) : Prop :=
  ∀ (H : Heap) (locs : List Loc) (lsA : Array Slot) (pc : Nat), decode μ.2.1 pc = .ok (pm_ret μ.2.2.2, 1) → pm_R B D s H h1 → (∀ q ∈ locs, B ≤ q.base) → W p l e R s m args below meth c H locs (h1.1 - n0) (h1.2.1 - w0) Q (F0 m pc lsA r.toList)
/-- from here the frame comes to its end: with the answer r, and the heap h1 -/
def EX (B : Nat) (D : va_G) (d : Nat) (μ : pm_M) (pc : Nat) (ls : pm_Ls) (st : List Value) (h : pm_H) (r : Option Value) (h1 : pm_H) : Prop :=
  (h.1 ≤ h1.1 ∧ h.2.1 ≤ h1.2.1) ∧ ∀ (p : Program) (l : Launch) (e : Env) (R : Room) (s : State) (m : MethodId) (args : Array Value) (below : List Frame) (meth : Method) (c : Code) (H : Heap) (locs : List Loc) (lsA : Array Slot) (n0 w0 : Nat) (Q : State → Prop),
    pm_cx D d μ p R s m args meth c → pm_L lsA μ.2.2.1 ls → pm_R B D s H h → (∀ q ∈ locs, B ≤ q.base) → n0 ≤ h.1 → w0 ≤ h.2.1 → h1.1 - n0 ≤ R.cells → h1.2.1 - w0 ≤ R.slots → pm_end B D μ r h1 p l e R s m args below meth c n0 w0 Q →
      W p l e R s m args below meth c H locs (h.1 - n0) (h.2.1 - w0) Q (F0 m pc lsA st)
/-- a method's contract: from the heap h it comes to the heap h1, with the answer r -/
def CT (B : Nat) (D : va_G) (d : Nat) (μ : pm_M) (as : List Value) (h : pm_H) (r : Option Value) (h1 : pm_H) : Prop :=
  (h.1 ≤ h1.1 ∧ h.2.1 ≤ h1.2.1) ∧ ∀ l : Launch, Met l μ.1 (pm_ws μ) (pm_rm d (h1.1 - h.1) (h1.2.1 - h.2.1)) (fun a U => a = as.toArray ∧ pm_K D U ∧ pm_R B D U U.heap h) (fun _ _ o t => o = .returned r ∧ pm_R B D t t.heap h1) (h1.1 - h.1) (h1.2.1 - h.2.1) (fun q => B ≤ q)
/-- the answer is of the kind that the method gives -/
def pm_rok : Option FieldType → Option Value → Prop := fun t r => match t, r with
  | none, none => True
  | some .int, some (.int _) => True
  | some .boolean, some (.int v) => v = 0 ∨ v = 1
  | some .long, some (.long _) => True
  | some (.object _), some .null => True
  | some (.object _), some (.ref _) => True
  | _, _ => False
theorem pm_bool_nar {v : Int32} (h : v = 0 ∨ v = 1) : narrow .boolean (.int v) = .int v := by
  rcases h with rfl | rfl <;> rfl
set_option maxHeartbeats 1000000 in
theorem CT.of {B : Nat} {D : va_G} {d : Nat} {μ : pm_M} {as : List Value} {h h1 : pm_H} {r : Option Value} (ls : pm_Ls) (hls : pm_ent μ.2.2.1 as = ls) (hlen : (pm_sl as).length ≤ μ.2.2.1) (hy : plainName μ.1.cls = true) (hr : pm_rok μ.2.2.2 r) (k : EX B D d μ 0 ls [] h r h1) : CT B D d μ as h r h1 := by
  subst hls
  refine ⟨k.1, fun l => ?_⟩
  refine Met.ofW (cc := μ.2.1) (maxL := μ.2.2.1) (ret := μ.2.2.2) (ws' := pm_gw) hy rfl ?_
  intro p e s m args below meth c s₁ Bd hml hv
  obtain ⟨rfl, hK, hR⟩ := hv
  have hts : ∀ w ∈ pm_ws μ, w.before as.toArray s = true := atoms_spec (ws := pm_ws μ) Bd.pre
  have hown : s.vm.findClass μ.1.cls = some m.cls := findClass_of_methodNamed Bd.named
  have hname : meth.name = μ.1.name := (name_of_methodNamed Bd.named Bd.method).1
  have hl := pm_L.entry as hlen
  rw [lg_entry_eq]
  generalize (lg_sl as ++ List.replicate (μ.2.2.1 - (lg_sl as).length) Slot.unset).toArray = lsA at hl ⊢
  have hx := Bd.exec
  have hb := Bd.bytes
  have hret := Bd.returns
  have hlocks := Bd.notSynchronized
  have key := k.2 p l e (headSpec (pm_ws μ) (pm_rm d (h1.1 - h.1) (h1.2.1 - h.2.1))).room s m as.toArray below meth c s.heap [] lsA h.1 h.2.1
    (MQ below (fun _ _ o t => o = .returned r ∧ pm_R B D t t.heap h1) as.toArray s (h1.1 - h.1) (h1.2.1 - h.2.1) (fun q => B ≤ q))
    ⟨hx, hb, hret, hml, hown, fun w hw => hts w (List.mem_cons_of_mem _ hw), hlocks, fun h => hname.trans h, hK, Nat.le_refl _, Nat.le_refl _⟩ hl hR (fun q hq => by cases hq) (Nat.le_refl _) (Nat.le_refl _) (Nat.le_refl _) (Nat.le_refl _) ?_
  · rw [Nat.sub_self, Nat.sub_self] at key
    exact key
  · intro H locs lsB pc hd hR1 hlo
    have hq : ∀ t : State, t.heap = H → s.WarmedH t.vm → (Outcome.returned r = .returned r ∧ pm_R B D t t.heap h1) := fun t ht hW => ⟨rfl, by rw [ht]; exact hR1.moved hW.alike⟩
    revert hd hret hr
    generalize hμ : μ.2.2.2 = ty
    intro hr hret hd
    match ty, r, hr with
    | none, none, _ => exact W.vret hx hb hret hq hlo hd hlocks
    | some .int, some (.int v), _ => exact W.iret (v := v) hx hb hret hq hlo hd hlocks
    | some .boolean, some (.int v), hr => exact W.zret (v := v) hx hb hret (pm_bool_nar hr) hq hlo hd hlocks
    | some .long, some (.long v), _ => exact W.lret (v := v) hx hb hret hq hlo hd hlocks
    | some (.object n), some .null, _ => exact W.aret (v := .null) hx hb hret (Or.inl ⟨n, rfl⟩) (Or.inl rfl) hq hlo hd hlocks
    | some (.object n), some (.ref a), _ => exact W.aret (v := .ref a) hx hb hret (Or.inl ⟨n, rfl⟩) (Or.inr ⟨a, rfl⟩) hq hlo hd hlocks
section PX
variable {B : Nat} {D : va_G} {d : Nat} {μ : pm_M} {pc : Nat} {ls : pm_Ls} {st : List Value} {h : pm_H} {r : Option Value} {h1 : pm_H}

theorem px_iconst {n : Int} {v : Int32} (hd : decode μ.2.1 pc = .ok (.iconst n, 1)) (hv : Int32.ofInt n = v) (kk : EX B D d μ (pc + 1) ls (.int v :: st) h r h1) : EX B D d μ pc ls (st) h r h1 := by
  refine ⟨kk.1, fun p l e R s m args below meth c H locs lsA n0 w0 Q cx hl hR hlo e1 e2 e3 e4 hq => ?_⟩
  exact lv_iconst cx.1 cx.2.1 hd hv (kk.2 p l e R s m args below meth c H locs lsA n0 w0 Q cx hl hR hlo e1 e2 e3 e4 hq)
theorem px_bipush {n : Int} {v : Int32} (hd : decode μ.2.1 pc = .ok (.bipush n, 2)) (hv : (Int8.ofInt n).toInt32 = v) (kk : EX B D d μ (pc + 2) ls (.int v :: st) h r h1) : EX B D d μ pc ls (st) h r h1 := by
  refine ⟨kk.1, fun p l e R s m args below meth c H locs lsA n0 w0 Q cx hl hR hlo e1 e2 e3 e4 hq => ?_⟩
  exact lv_bipush cx.1 cx.2.1 hd hv (kk.2 p l e R s m args below meth c H locs lsA n0 w0 Q cx hl hR hlo e1 e2 e3 e4 hq)
theorem px_sipush {n : Int} {v : Int32} (hd : decode μ.2.1 pc = .ok (.sipush n, 3)) (hv : (Int16.ofInt n).toInt32 = v) (kk : EX B D d μ (pc + 3) ls (.int v :: st) h r h1) : EX B D d μ pc ls (st) h r h1 := by
  refine ⟨kk.1, fun p l e R s m args below meth c H locs lsA n0 w0 Q cx hl hR hlo e1 e2 e3 e4 hq => ?_⟩
  exact lv_sipush cx.1 cx.2.1 hd hv (kk.2 p l e R s m args below meth c H locs lsA n0 w0 Q cx hl hR hlo e1 e2 e3 e4 hq)
theorem px_lconst {n : Fin 2} {v : Int64} (hd : decode μ.2.1 pc = .ok (.lconst n, 1)) (hv : Int64.ofNat (n : Nat) = v) (kk : EX B D d μ (pc + 1) ls (.long v :: st) h r h1) : EX B D d μ pc ls (st) h r h1 := by
  refine ⟨kk.1, fun p l e R s m args below meth c H locs lsA n0 w0 Q cx hl hR hlo e1 e2 e3 e4 hq => ?_⟩
  exact lv_lconst cx.1 cx.2.1 hd hv (kk.2 p l e R s m args below meth c H locs lsA n0 w0 Q cx hl hR hlo e1 e2 e3 e4 hq)
theorem px_ldc {i : Nat} {v : Int32} (hd : decode μ.2.1 pc = .ok (.ldc i, 2)) (hc : Cond.constant μ.1.cls i v ∈ pm_gw) (kk : EX B D d μ (pc + 2) ls (.int v :: st) h r h1) : EX B D d μ pc ls (st) h r h1 := by
  refine ⟨kk.1, fun p l e R s m args below meth c H locs lsA n0 w0 Q cx hl hR hlo e1 e2 e3 e4 hq => ?_⟩
  exact lv_ldc cx.1 cx.2.1 cx.2.2.2.2.1 (cx.2.2.2.2.2.1 _ hc) hd (kk.2 p l e R s m args below meth c H locs lsA n0 w0 Q cx hl hR hlo e1 e2 e3 e4 hq)
theorem px_ldc2 {i : Nat} {v : Int64} (hd : decode μ.2.1 pc = .ok (.ldc2_w i, 3)) (hc : Cond.constantLong μ.1.cls i v ∈ pm_gw) (kk : EX B D d μ (pc + 3) ls (.long v :: st) h r h1) : EX B D d μ pc ls (st) h r h1 := by
  refine ⟨kk.1, fun p l e R s m args below meth c H locs lsA n0 w0 Q cx hl hR hlo e1 e2 e3 e4 hq => ?_⟩
  exact lv_ldc2 cx.1 cx.2.1 cx.2.2.2.2.1 (cx.2.2.2.2.2.1 _ hc) hd (kk.2 p l e R s m args below meth c H locs lsA n0 w0 Q cx hl hR hlo e1 e2 e3 e4 hq)
theorem px_iload_n {k : Fin 4} {x : Int32} (hd : decode μ.2.1 pc = .ok (.iload_n k, 1)) (hv : ls[(k : Nat)]? = some (some (.int x))) (kk : EX B D d μ (pc + 1) ls (.int x :: st) h r h1) : EX B D d μ pc ls (st) h r h1 := by
  refine ⟨kk.1, fun p l e R s m args below meth c H locs lsA n0 w0 Q cx hl hR hlo e1 e2 e3 e4 hq => ?_⟩
  exact lv_iload_n cx.1 cx.2.1 hd rfl (hl.2.2.2 _ _ hv) (kk.2 p l e R s m args below meth c H locs lsA n0 w0 Q cx hl hR hlo e1 e2 e3 e4 hq)
theorem px_iload {i : Nat} {x : Int32} (hd : decode μ.2.1 pc = .ok (.iload i, 2)) (hv : ls[i]? = some (some (.int x))) (kk : EX B D d μ (pc + 2) ls (.int x :: st) h r h1) : EX B D d μ pc ls (st) h r h1 := by
  refine ⟨kk.1, fun p l e R s m args below meth c H locs lsA n0 w0 Q cx hl hR hlo e1 e2 e3 e4 hq => ?_⟩
  exact lv_iload cx.1 cx.2.1 hd (hl.2.2.2 _ _ hv) (kk.2 p l e R s m args below meth c H locs lsA n0 w0 Q cx hl hR hlo e1 e2 e3 e4 hq)
theorem px_lload_n {k : Fin 4} {x : Int64} (hd : decode μ.2.1 pc = .ok (.lload_n k, 1)) (hv : ls[(k : Nat)]? = some (some (.long x))) (kk : EX B D d μ (pc + 1) ls (.long x :: st) h r h1) : EX B D d μ pc ls (st) h r h1 := by
  refine ⟨kk.1, fun p l e R s m args below meth c H locs lsA n0 w0 Q cx hl hR hlo e1 e2 e3 e4 hq => ?_⟩
  exact lv_lload_n cx.1 cx.2.1 hd rfl (hl.2.2.2 _ _ hv) (kk.2 p l e R s m args below meth c H locs lsA n0 w0 Q cx hl hR hlo e1 e2 e3 e4 hq)
theorem px_lload {i : Nat} {x : Int64} (hd : decode μ.2.1 pc = .ok (.lload i, 2)) (hv : ls[i]? = some (some (.long x))) (kk : EX B D d μ (pc + 2) ls (.long x :: st) h r h1) : EX B D d μ pc ls (st) h r h1 := by
  refine ⟨kk.1, fun p l e R s m args below meth c H locs lsA n0 w0 Q cx hl hR hlo e1 e2 e3 e4 hq => ?_⟩
  exact lv_lload cx.1 cx.2.1 hd (hl.2.2.2 _ _ hv) (kk.2 p l e R s m args below meth c H locs lsA n0 w0 Q cx hl hR hlo e1 e2 e3 e4 hq)
theorem px_aload_n {k : Fin 4} {x : Nat} (hd : decode μ.2.1 pc = .ok (.aload_n k, 1)) (hv : ls[(k : Nat)]? = some (some (.ref x))) (kk : EX B D d μ (pc + 1) ls (.ref x :: st) h r h1) : EX B D d μ pc ls (st) h r h1 := by
  refine ⟨kk.1, fun p l e R s m args below meth c H locs lsA n0 w0 Q cx hl hR hlo e1 e2 e3 e4 hq => ?_⟩
  exact lv_aload_n cx.1 cx.2.1 hd rfl (hl.2.2.2 _ _ hv) (kk.2 p l e R s m args below meth c H locs lsA n0 w0 Q cx hl hR hlo e1 e2 e3 e4 hq)
theorem px_aload {i : Nat} {x : Nat} (hd : decode μ.2.1 pc = .ok (.aload i, 2)) (hv : ls[i]? = some (some (.ref x))) (kk : EX B D d μ (pc + 2) ls (.ref x :: st) h r h1) : EX B D d μ pc ls (st) h r h1 := by
  refine ⟨kk.1, fun p l e R s m args below meth c H locs lsA n0 w0 Q cx hl hR hlo e1 e2 e3 e4 hq => ?_⟩
  exact lv_aload cx.1 cx.2.1 hd (hl.2.2.2 _ _ hv) (kk.2 p l e R s m args below meth c H locs lsA n0 w0 Q cx hl hR hlo e1 e2 e3 e4 hq)
theorem px_aload_nN {k : Fin 4} (hd : decode μ.2.1 pc = .ok (.aload_n k, 1)) (hv : ls[(k : Nat)]? = some (some .null)) (kk : EX B D d μ (pc + 1) ls (.null :: st) h r h1) : EX B D d μ pc ls (st) h r h1 := by
  refine ⟨kk.1, fun p l e R s m args below meth c H locs lsA n0 w0 Q cx hl hR hlo e1 e2 e3 e4 hq => ?_⟩
  exact lv_aload_nN cx.1 cx.2.1 hd rfl (hl.2.2.2 _ _ hv) (kk.2 p l e R s m args below meth c H locs lsA n0 w0 Q cx hl hR hlo e1 e2 e3 e4 hq)
theorem px_aloadN {i : Nat} (hd : decode μ.2.1 pc = .ok (.aload i, 2)) (hv : ls[i]? = some (some .null)) (kk : EX B D d μ (pc + 2) ls (.null :: st) h r h1) : EX B D d μ pc ls (st) h r h1 := by
  refine ⟨kk.1, fun p l e R s m args below meth c H locs lsA n0 w0 Q cx hl hR hlo e1 e2 e3 e4 hq => ?_⟩
  exact lv_aloadN cx.1 cx.2.1 hd (hl.2.2.2 _ _ hv) (kk.2 p l e R s m args below meth c H locs lsA n0 w0 Q cx hl hR hlo e1 e2 e3 e4 hq)
theorem px_null  (hd : decode μ.2.1 pc = .ok (.aconst_null, 1)) (kk : EX B D d μ (pc + 1) ls (.null :: st) h r h1) : EX B D d μ pc ls (st) h r h1 := by
  refine ⟨kk.1, fun p l e R s m args below meth c H locs lsA n0 w0 Q cx hl hR hlo e1 e2 e3 e4 hq => ?_⟩
  exact lv_null cx.1 cx.2.1 hd (kk.2 p l e R s m args below meth c H locs lsA n0 w0 Q cx hl hR hlo e1 e2 e3 e4 hq)
theorem px_iadd {x y : Int32} (hd : decode μ.2.1 pc = .ok (.iadd, 1)) (kk : EX B D d μ (pc + 1) ls (.int (x + y) :: st) h r h1) : EX B D d μ pc ls (.int y :: .int x :: st) h r h1 := by
  refine ⟨kk.1, fun p l e R s m args below meth c H locs lsA n0 w0 Q cx hl hR hlo e1 e2 e3 e4 hq => ?_⟩
  exact lv_iadd cx.1 cx.2.1 hd (kk.2 p l e R s m args below meth c H locs lsA n0 w0 Q cx hl hR hlo e1 e2 e3 e4 hq)
theorem px_isub {x y : Int32} (hd : decode μ.2.1 pc = .ok (.isub, 1)) (kk : EX B D d μ (pc + 1) ls (.int (x - y) :: st) h r h1) : EX B D d μ pc ls (.int y :: .int x :: st) h r h1 := by
  refine ⟨kk.1, fun p l e R s m args below meth c H locs lsA n0 w0 Q cx hl hR hlo e1 e2 e3 e4 hq => ?_⟩
  exact lv_isub cx.1 cx.2.1 hd (kk.2 p l e R s m args below meth c H locs lsA n0 w0 Q cx hl hR hlo e1 e2 e3 e4 hq)
theorem px_imul {x y : Int32} (hd : decode μ.2.1 pc = .ok (.imul, 1)) (kk : EX B D d μ (pc + 1) ls (.int (x * y) :: st) h r h1) : EX B D d μ pc ls (.int y :: .int x :: st) h r h1 := by
  refine ⟨kk.1, fun p l e R s m args below meth c H locs lsA n0 w0 Q cx hl hR hlo e1 e2 e3 e4 hq => ?_⟩
  exact lv_imul cx.1 cx.2.1 hd (kk.2 p l e R s m args below meth c H locs lsA n0 w0 Q cx hl hR hlo e1 e2 e3 e4 hq)
theorem px_iand {x y : Int32} (hd : decode μ.2.1 pc = .ok (.iand, 1)) (kk : EX B D d μ (pc + 1) ls (.int (x &&& y) :: st) h r h1) : EX B D d μ pc ls (.int y :: .int x :: st) h r h1 := by
  refine ⟨kk.1, fun p l e R s m args below meth c H locs lsA n0 w0 Q cx hl hR hlo e1 e2 e3 e4 hq => ?_⟩
  exact lv_iand cx.1 cx.2.1 hd (kk.2 p l e R s m args below meth c H locs lsA n0 w0 Q cx hl hR hlo e1 e2 e3 e4 hq)
theorem px_ior {x y : Int32} (hd : decode μ.2.1 pc = .ok (.ior, 1)) (kk : EX B D d μ (pc + 1) ls (.int (x ||| y) :: st) h r h1) : EX B D d μ pc ls (.int y :: .int x :: st) h r h1 := by
  refine ⟨kk.1, fun p l e R s m args below meth c H locs lsA n0 w0 Q cx hl hR hlo e1 e2 e3 e4 hq => ?_⟩
  exact lv_ior cx.1 cx.2.1 hd (kk.2 p l e R s m args below meth c H locs lsA n0 w0 Q cx hl hR hlo e1 e2 e3 e4 hq)
theorem px_ixor {x y : Int32} (hd : decode μ.2.1 pc = .ok (.ixor, 1)) (kk : EX B D d μ (pc + 1) ls (.int (x ^^^ y) :: st) h r h1) : EX B D d μ pc ls (.int y :: .int x :: st) h r h1 := by
  refine ⟨kk.1, fun p l e R s m args below meth c H locs lsA n0 w0 Q cx hl hR hlo e1 e2 e3 e4 hq => ?_⟩
  exact lv_ixor cx.1 cx.2.1 hd (kk.2 p l e R s m args below meth c H locs lsA n0 w0 Q cx hl hR hlo e1 e2 e3 e4 hq)
theorem px_ishl {x y : Int32} (hd : decode μ.2.1 pc = .ok (.ishl, 1)) (kk : EX B D d μ (pc + 1) ls (.int (x <<< (y &&& 31)) :: st) h r h1) : EX B D d μ pc ls (.int y :: .int x :: st) h r h1 := by
  refine ⟨kk.1, fun p l e R s m args below meth c H locs lsA n0 w0 Q cx hl hR hlo e1 e2 e3 e4 hq => ?_⟩
  exact lv_ishl cx.1 cx.2.1 hd (kk.2 p l e R s m args below meth c H locs lsA n0 w0 Q cx hl hR hlo e1 e2 e3 e4 hq)
theorem px_ishr {x y : Int32} (hd : decode μ.2.1 pc = .ok (.ishr, 1)) (kk : EX B D d μ (pc + 1) ls (.int (x >>> (y &&& 31)) :: st) h r h1) : EX B D d μ pc ls (.int y :: .int x :: st) h r h1 := by
  refine ⟨kk.1, fun p l e R s m args below meth c H locs lsA n0 w0 Q cx hl hR hlo e1 e2 e3 e4 hq => ?_⟩
  exact lv_ishr cx.1 cx.2.1 hd (kk.2 p l e R s m args below meth c H locs lsA n0 w0 Q cx hl hR hlo e1 e2 e3 e4 hq)
theorem px_idiv {x y : Int32} (hd : decode μ.2.1 pc = .ok (.idiv, 1)) (hne : ¬ y = 0) (kk : EX B D d μ (pc + 1) ls (.int (x / y) :: st) h r h1) : EX B D d μ pc ls (.int y :: .int x :: st) h r h1 := by
  refine ⟨kk.1, fun p l e R s m args below meth c H locs lsA n0 w0 Q cx hl hR hlo e1 e2 e3 e4 hq => ?_⟩
  exact lv_idiv cx.1 cx.2.1 hd hne (kk.2 p l e R s m args below meth c H locs lsA n0 w0 Q cx hl hR hlo e1 e2 e3 e4 hq)
theorem px_irem {x y : Int32} (hd : decode μ.2.1 pc = .ok (.irem, 1)) (hne : ¬ y = 0) (kk : EX B D d μ (pc + 1) ls (.int (x - x / y * y) :: st) h r h1) : EX B D d μ pc ls (.int y :: .int x :: st) h r h1 := by
  refine ⟨kk.1, fun p l e R s m args below meth c H locs lsA n0 w0 Q cx hl hR hlo e1 e2 e3 e4 hq => ?_⟩
  exact lv_irem cx.1 cx.2.1 hd hne (kk.2 p l e R s m args below meth c H locs lsA n0 w0 Q cx hl hR hlo e1 e2 e3 e4 hq)
theorem px_ladd {x y : Int64} (hd : decode μ.2.1 pc = .ok (.ladd, 1)) (kk : EX B D d μ (pc + 1) ls (.long (x + y) :: st) h r h1) : EX B D d μ pc ls (.long y :: .long x :: st) h r h1 := by
  refine ⟨kk.1, fun p l e R s m args below meth c H locs lsA n0 w0 Q cx hl hR hlo e1 e2 e3 e4 hq => ?_⟩
  exact lv_ladd cx.1 cx.2.1 hd (kk.2 p l e R s m args below meth c H locs lsA n0 w0 Q cx hl hR hlo e1 e2 e3 e4 hq)
theorem px_lsub {x y : Int64} (hd : decode μ.2.1 pc = .ok (.lsub, 1)) (kk : EX B D d μ (pc + 1) ls (.long (x - y) :: st) h r h1) : EX B D d μ pc ls (.long y :: .long x :: st) h r h1 := by
  refine ⟨kk.1, fun p l e R s m args below meth c H locs lsA n0 w0 Q cx hl hR hlo e1 e2 e3 e4 hq => ?_⟩
  exact lv_lsub cx.1 cx.2.1 hd (kk.2 p l e R s m args below meth c H locs lsA n0 w0 Q cx hl hR hlo e1 e2 e3 e4 hq)
theorem px_lmul {x y : Int64} (hd : decode μ.2.1 pc = .ok (.lmul, 1)) (kk : EX B D d μ (pc + 1) ls (.long (x * y) :: st) h r h1) : EX B D d μ pc ls (.long y :: .long x :: st) h r h1 := by
  refine ⟨kk.1, fun p l e R s m args below meth c H locs lsA n0 w0 Q cx hl hR hlo e1 e2 e3 e4 hq => ?_⟩
  exact lv_lmul cx.1 cx.2.1 hd (kk.2 p l e R s m args below meth c H locs lsA n0 w0 Q cx hl hR hlo e1 e2 e3 e4 hq)
theorem px_land {x y : Int64} (hd : decode μ.2.1 pc = .ok (.land, 1)) (kk : EX B D d μ (pc + 1) ls (.long (x &&& y) :: st) h r h1) : EX B D d μ pc ls (.long y :: .long x :: st) h r h1 := by
  refine ⟨kk.1, fun p l e R s m args below meth c H locs lsA n0 w0 Q cx hl hR hlo e1 e2 e3 e4 hq => ?_⟩
  exact lv_land cx.1 cx.2.1 hd (kk.2 p l e R s m args below meth c H locs lsA n0 w0 Q cx hl hR hlo e1 e2 e3 e4 hq)
theorem px_lor {x y : Int64} (hd : decode μ.2.1 pc = .ok (.lor, 1)) (kk : EX B D d μ (pc + 1) ls (.long (x ||| y) :: st) h r h1) : EX B D d μ pc ls (.long y :: .long x :: st) h r h1 := by
  refine ⟨kk.1, fun p l e R s m args below meth c H locs lsA n0 w0 Q cx hl hR hlo e1 e2 e3 e4 hq => ?_⟩
  exact lv_lor cx.1 cx.2.1 hd (kk.2 p l e R s m args below meth c H locs lsA n0 w0 Q cx hl hR hlo e1 e2 e3 e4 hq)
theorem px_ldiv {x y : Int64} (hd : decode μ.2.1 pc = .ok (.ldiv, 1)) (hne : ¬ y = 0) (kk : EX B D d μ (pc + 1) ls (.long (x / y) :: st) h r h1) : EX B D d μ pc ls (.long y :: .long x :: st) h r h1 := by
  refine ⟨kk.1, fun p l e R s m args below meth c H locs lsA n0 w0 Q cx hl hR hlo e1 e2 e3 e4 hq => ?_⟩
  exact lv_ldiv cx.1 cx.2.1 hd hne (kk.2 p l e R s m args below meth c H locs lsA n0 w0 Q cx hl hR hlo e1 e2 e3 e4 hq)
theorem px_lrem {x y : Int64} (hd : decode μ.2.1 pc = .ok (.lrem, 1)) (hne : ¬ y = 0) (kk : EX B D d μ (pc + 1) ls (.long (x - x / y * y) :: st) h r h1) : EX B D d μ pc ls (.long y :: .long x :: st) h r h1 := by
  refine ⟨kk.1, fun p l e R s m args below meth c H locs lsA n0 w0 Q cx hl hR hlo e1 e2 e3 e4 hq => ?_⟩
  exact lv_lrem cx.1 cx.2.1 hd hne (kk.2 p l e R s m args below meth c H locs lsA n0 w0 Q cx hl hR hlo e1 e2 e3 e4 hq)
theorem px_lshl {x : Int64} {y : Int32} (hd : decode μ.2.1 pc = .ok (.lshl, 1)) (kk : EX B D d μ (pc + 1) ls (.long (x <<< (y.toInt64 &&& 63)) :: st) h r h1) : EX B D d μ pc ls (.int y :: .long x :: st) h r h1 := by
  refine ⟨kk.1, fun p l e R s m args below meth c H locs lsA n0 w0 Q cx hl hR hlo e1 e2 e3 e4 hq => ?_⟩
  exact lv_lshl cx.1 cx.2.1 hd rfl (kk.2 p l e R s m args below meth c H locs lsA n0 w0 Q cx hl hR hlo e1 e2 e3 e4 hq)
theorem px_i2l {x : Int32} (hd : decode μ.2.1 pc = .ok (.i2l, 1)) (kk : EX B D d μ (pc + 1) ls (.long x.toInt64 :: st) h r h1) : EX B D d μ pc ls (.int x :: st) h r h1 := by
  refine ⟨kk.1, fun p l e R s m args below meth c H locs lsA n0 w0 Q cx hl hR hlo e1 e2 e3 e4 hq => ?_⟩
  exact lv_i2l cx.1 cx.2.1 hd rfl (kk.2 p l e R s m args below meth c H locs lsA n0 w0 Q cx hl hR hlo e1 e2 e3 e4 hq)
theorem px_l2i {x : Int64} (hd : decode μ.2.1 pc = .ok (.l2i, 1)) (kk : EX B D d μ (pc + 1) ls (.int x.toInt32 :: st) h r h1) : EX B D d μ pc ls (.long x :: st) h r h1 := by
  refine ⟨kk.1, fun p l e R s m args below meth c H locs lsA n0 w0 Q cx hl hR hlo e1 e2 e3 e4 hq => ?_⟩
  exact lv_l2i cx.1 cx.2.1 hd rfl (kk.2 p l e R s m args below meth c H locs lsA n0 w0 Q cx hl hR hlo e1 e2 e3 e4 hq)
theorem px_lcmp {x y : Int64} (hd : decode μ.2.1 pc = .ok (.lcmp, 1)) (kk : EX B D d μ (pc + 1) ls (.int (lg_cmp x y) :: st) h r h1) : EX B D d μ pc ls (.long y :: .long x :: st) h r h1 := by
  refine ⟨kk.1, fun p l e R s m args below meth c H locs lsA n0 w0 Q cx hl hR hlo e1 e2 e3 e4 hq => ?_⟩
  exact W.lcmp cx.1 cx.2.1 hd (kk.2 p l e R s m args below meth c H locs lsA n0 w0 Q cx hl hR hlo e1 e2 e3 e4 hq)
theorem px_dup {v : Value} (hd : decode μ.2.1 pc = .ok (.dup, 1)) (hc : v.category = 1) (kk : EX B D d μ (pc + 1) ls (v :: v :: st) h r h1) : EX B D d μ pc ls (v :: st) h r h1 := by
  refine ⟨kk.1, fun p l e R s m args below meth c H locs lsA n0 w0 Q cx hl hR hlo e1 e2 e3 e4 hq => ?_⟩
  exact lv_dup cx.1 cx.2.1 hd hc (kk.2 p l e R s m args below meth c H locs lsA n0 w0 Q cx hl hR hlo e1 e2 e3 e4 hq)
theorem px_pop {v : Value} (hd : decode μ.2.1 pc = .ok (.pop, 1)) (hc : v.category = 1) (kk : EX B D d μ (pc + 1) ls (st) h r h1) : EX B D d μ pc ls (v :: st) h r h1 := by
  refine ⟨kk.1, fun p l e R s m args below meth c H locs lsA n0 w0 Q cx hl hR hlo e1 e2 e3 e4 hq => ?_⟩
  exact lv_pop cx.1 cx.2.1 hd hc (kk.2 p l e R s m args below meth c H locs lsA n0 w0 Q cx hl hR hlo e1 e2 e3 e4 hq)
theorem px_if_eq {x : Int32} {off : Int} {tgt : Nat} (hd : decode μ.2.1 pc = .ok (.ifCond .eq off, 3)) (ht : (pc : Int) + off = (tgt : Int)) (kt : x = 0 → EX B D d μ tgt ls st h r h1) (kf : ¬ x = 0 → EX B D d μ (pc + 3) ls st h r h1) : EX B D d μ pc ls (.int x :: st) h r h1 := by
  refine ⟨?_, fun p l e R s m args below meth c H locs lsA n0 w0 Q cx hl hR hlo e1 e2 e3 e4 hq => ?_⟩
  · by_cases hc : x = 0
    · exact (kt hc).1
    · exact (kf hc).1
  · exact lv_if_eq cx.1 cx.2.1 hd ht (fun hc => (kt hc).2 p l e R s m args below meth c H locs lsA n0 w0 Q cx hl hR hlo e1 e2 e3 e4 hq) (fun hc => (kf hc).2 p l e R s m args below meth c H locs lsA n0 w0 Q cx hl hR hlo e1 e2 e3 e4 hq)
theorem px_icmp_eq {x y : Int32} {off : Int} {tgt : Nat} (hd : decode μ.2.1 pc = .ok (.if_icmp .eq off, 3)) (ht : (pc : Int) + off = (tgt : Int)) (kt : x = y → EX B D d μ tgt ls st h r h1) (kf : ¬ x = y → EX B D d μ (pc + 3) ls st h r h1) : EX B D d μ pc ls (.int y :: .int x :: st) h r h1 := by
  refine ⟨?_, fun p l e R s m args below meth c H locs lsA n0 w0 Q cx hl hR hlo e1 e2 e3 e4 hq => ?_⟩
  · by_cases hc : x = y
    · exact (kt hc).1
    · exact (kf hc).1
  · exact lv_icmp_eq cx.1 cx.2.1 hd ht (fun hc => (kt hc).2 p l e R s m args below meth c H locs lsA n0 w0 Q cx hl hR hlo e1 e2 e3 e4 hq) (fun hc => (kf hc).2 p l e R s m args below meth c H locs lsA n0 w0 Q cx hl hR hlo e1 e2 e3 e4 hq)
theorem px_if_ne {x : Int32} {off : Int} {tgt : Nat} (hd : decode μ.2.1 pc = .ok (.ifCond .ne off, 3)) (ht : (pc : Int) + off = (tgt : Int)) (kt : ¬ x = 0 → EX B D d μ tgt ls st h r h1) (kf : x = 0 → EX B D d μ (pc + 3) ls st h r h1) : EX B D d μ pc ls (.int x :: st) h r h1 := by
  refine ⟨?_, fun p l e R s m args below meth c H locs lsA n0 w0 Q cx hl hR hlo e1 e2 e3 e4 hq => ?_⟩
  · by_cases hc : x = 0
    · exact (kf hc).1
    · exact (kt hc).1
  · exact lv_if_ne cx.1 cx.2.1 hd ht (fun hc => (kt hc).2 p l e R s m args below meth c H locs lsA n0 w0 Q cx hl hR hlo e1 e2 e3 e4 hq) (fun hc => (kf hc).2 p l e R s m args below meth c H locs lsA n0 w0 Q cx hl hR hlo e1 e2 e3 e4 hq)
theorem px_icmp_ne {x y : Int32} {off : Int} {tgt : Nat} (hd : decode μ.2.1 pc = .ok (.if_icmp .ne off, 3)) (ht : (pc : Int) + off = (tgt : Int)) (kt : ¬ x = y → EX B D d μ tgt ls st h r h1) (kf : x = y → EX B D d μ (pc + 3) ls st h r h1) : EX B D d μ pc ls (.int y :: .int x :: st) h r h1 := by
  refine ⟨?_, fun p l e R s m args below meth c H locs lsA n0 w0 Q cx hl hR hlo e1 e2 e3 e4 hq => ?_⟩
  · by_cases hc : x = y
    · exact (kf hc).1
    · exact (kt hc).1
  · exact lv_icmp_ne cx.1 cx.2.1 hd ht (fun hc => (kt hc).2 p l e R s m args below meth c H locs lsA n0 w0 Q cx hl hR hlo e1 e2 e3 e4 hq) (fun hc => (kf hc).2 p l e R s m args below meth c H locs lsA n0 w0 Q cx hl hR hlo e1 e2 e3 e4 hq)
theorem px_if_lt {x : Int32} {off : Int} {tgt : Nat} (hd : decode μ.2.1 pc = .ok (.ifCond .lt off, 3)) (ht : (pc : Int) + off = (tgt : Int)) (kt : x < 0 → EX B D d μ tgt ls st h r h1) (kf : ¬ x < 0 → EX B D d μ (pc + 3) ls st h r h1) : EX B D d μ pc ls (.int x :: st) h r h1 := by
  refine ⟨?_, fun p l e R s m args below meth c H locs lsA n0 w0 Q cx hl hR hlo e1 e2 e3 e4 hq => ?_⟩
  · by_cases hc : x < 0
    · exact (kt hc).1
    · exact (kf hc).1
  · exact lv_if_lt cx.1 cx.2.1 hd ht (fun hc => (kt hc).2 p l e R s m args below meth c H locs lsA n0 w0 Q cx hl hR hlo e1 e2 e3 e4 hq) (fun hc => (kf hc).2 p l e R s m args below meth c H locs lsA n0 w0 Q cx hl hR hlo e1 e2 e3 e4 hq)
theorem px_icmp_lt {x y : Int32} {off : Int} {tgt : Nat} (hd : decode μ.2.1 pc = .ok (.if_icmp .lt off, 3)) (ht : (pc : Int) + off = (tgt : Int)) (kt : x < y → EX B D d μ tgt ls st h r h1) (kf : ¬ x < y → EX B D d μ (pc + 3) ls st h r h1) : EX B D d μ pc ls (.int y :: .int x :: st) h r h1 := by
  refine ⟨?_, fun p l e R s m args below meth c H locs lsA n0 w0 Q cx hl hR hlo e1 e2 e3 e4 hq => ?_⟩
  · by_cases hc : x < y
    · exact (kt hc).1
    · exact (kf hc).1
  · exact lv_icmp_lt cx.1 cx.2.1 hd ht (fun hc => (kt hc).2 p l e R s m args below meth c H locs lsA n0 w0 Q cx hl hR hlo e1 e2 e3 e4 hq) (fun hc => (kf hc).2 p l e R s m args below meth c H locs lsA n0 w0 Q cx hl hR hlo e1 e2 e3 e4 hq)
theorem px_if_ge {x : Int32} {off : Int} {tgt : Nat} (hd : decode μ.2.1 pc = .ok (.ifCond .ge off, 3)) (ht : (pc : Int) + off = (tgt : Int)) (kt : 0 ≤ x → EX B D d μ tgt ls st h r h1) (kf : ¬ 0 ≤ x → EX B D d μ (pc + 3) ls st h r h1) : EX B D d μ pc ls (.int x :: st) h r h1 := by
  refine ⟨?_, fun p l e R s m args below meth c H locs lsA n0 w0 Q cx hl hR hlo e1 e2 e3 e4 hq => ?_⟩
  · by_cases hc : 0 ≤ x
    · exact (kt hc).1
    · exact (kf hc).1
  · exact lv_if_ge cx.1 cx.2.1 hd ht (fun hc => (kt hc).2 p l e R s m args below meth c H locs lsA n0 w0 Q cx hl hR hlo e1 e2 e3 e4 hq) (fun hc => (kf hc).2 p l e R s m args below meth c H locs lsA n0 w0 Q cx hl hR hlo e1 e2 e3 e4 hq)
theorem px_icmp_ge {x y : Int32} {off : Int} {tgt : Nat} (hd : decode μ.2.1 pc = .ok (.if_icmp .ge off, 3)) (ht : (pc : Int) + off = (tgt : Int)) (kt : y ≤ x → EX B D d μ tgt ls st h r h1) (kf : ¬ y ≤ x → EX B D d μ (pc + 3) ls st h r h1) : EX B D d μ pc ls (.int y :: .int x :: st) h r h1 := by
  refine ⟨?_, fun p l e R s m args below meth c H locs lsA n0 w0 Q cx hl hR hlo e1 e2 e3 e4 hq => ?_⟩
  · by_cases hc : y ≤ x
    · exact (kt hc).1
    · exact (kf hc).1
  · exact lv_icmp_ge cx.1 cx.2.1 hd ht (fun hc => (kt hc).2 p l e R s m args below meth c H locs lsA n0 w0 Q cx hl hR hlo e1 e2 e3 e4 hq) (fun hc => (kf hc).2 p l e R s m args below meth c H locs lsA n0 w0 Q cx hl hR hlo e1 e2 e3 e4 hq)
theorem px_if_gt {x : Int32} {off : Int} {tgt : Nat} (hd : decode μ.2.1 pc = .ok (.ifCond .gt off, 3)) (ht : (pc : Int) + off = (tgt : Int)) (kt : 0 < x → EX B D d μ tgt ls st h r h1) (kf : ¬ 0 < x → EX B D d μ (pc + 3) ls st h r h1) : EX B D d μ pc ls (.int x :: st) h r h1 := by
  refine ⟨?_, fun p l e R s m args below meth c H locs lsA n0 w0 Q cx hl hR hlo e1 e2 e3 e4 hq => ?_⟩
  · by_cases hc : 0 < x
    · exact (kt hc).1
    · exact (kf hc).1
  · exact lv_if_gt cx.1 cx.2.1 hd ht (fun hc => (kt hc).2 p l e R s m args below meth c H locs lsA n0 w0 Q cx hl hR hlo e1 e2 e3 e4 hq) (fun hc => (kf hc).2 p l e R s m args below meth c H locs lsA n0 w0 Q cx hl hR hlo e1 e2 e3 e4 hq)
theorem px_icmp_gt {x y : Int32} {off : Int} {tgt : Nat} (hd : decode μ.2.1 pc = .ok (.if_icmp .gt off, 3)) (ht : (pc : Int) + off = (tgt : Int)) (kt : y < x → EX B D d μ tgt ls st h r h1) (kf : ¬ y < x → EX B D d μ (pc + 3) ls st h r h1) : EX B D d μ pc ls (.int y :: .int x :: st) h r h1 := by
  refine ⟨?_, fun p l e R s m args below meth c H locs lsA n0 w0 Q cx hl hR hlo e1 e2 e3 e4 hq => ?_⟩
  · by_cases hc : y < x
    · exact (kt hc).1
    · exact (kf hc).1
  · exact lv_icmp_gt cx.1 cx.2.1 hd ht (fun hc => (kt hc).2 p l e R s m args below meth c H locs lsA n0 w0 Q cx hl hR hlo e1 e2 e3 e4 hq) (fun hc => (kf hc).2 p l e R s m args below meth c H locs lsA n0 w0 Q cx hl hR hlo e1 e2 e3 e4 hq)
theorem px_if_le {x : Int32} {off : Int} {tgt : Nat} (hd : decode μ.2.1 pc = .ok (.ifCond .le off, 3)) (ht : (pc : Int) + off = (tgt : Int)) (kt : x ≤ 0 → EX B D d μ tgt ls st h r h1) (kf : ¬ x ≤ 0 → EX B D d μ (pc + 3) ls st h r h1) : EX B D d μ pc ls (.int x :: st) h r h1 := by
  refine ⟨?_, fun p l e R s m args below meth c H locs lsA n0 w0 Q cx hl hR hlo e1 e2 e3 e4 hq => ?_⟩
  · by_cases hc : x ≤ 0
    · exact (kt hc).1
    · exact (kf hc).1
  · exact lv_if_le cx.1 cx.2.1 hd ht (fun hc => (kt hc).2 p l e R s m args below meth c H locs lsA n0 w0 Q cx hl hR hlo e1 e2 e3 e4 hq) (fun hc => (kf hc).2 p l e R s m args below meth c H locs lsA n0 w0 Q cx hl hR hlo e1 e2 e3 e4 hq)
theorem px_icmp_le {x y : Int32} {off : Int} {tgt : Nat} (hd : decode μ.2.1 pc = .ok (.if_icmp .le off, 3)) (ht : (pc : Int) + off = (tgt : Int)) (kt : x ≤ y → EX B D d μ tgt ls st h r h1) (kf : ¬ x ≤ y → EX B D d μ (pc + 3) ls st h r h1) : EX B D d μ pc ls (.int y :: .int x :: st) h r h1 := by
  refine ⟨?_, fun p l e R s m args below meth c H locs lsA n0 w0 Q cx hl hR hlo e1 e2 e3 e4 hq => ?_⟩
  · by_cases hc : x ≤ y
    · exact (kt hc).1
    · exact (kf hc).1
  · exact lv_icmp_le cx.1 cx.2.1 hd ht (fun hc => (kt hc).2 p l e R s m args below meth c H locs lsA n0 w0 Q cx hl hR hlo e1 e2 e3 e4 hq) (fun hc => (kf hc).2 p l e R s m args below meth c H locs lsA n0 w0 Q cx hl hR hlo e1 e2 e3 e4 hq)
theorem px_goto  {off : Int} {tgt : Nat} (hd : decode μ.2.1 pc = .ok (.goto off, 3)) (ht : (pc : Int) + off = (tgt : Int)) (kk : EX B D d μ tgt ls st h r h1) : EX B D d μ pc ls (st) h r h1 := by
  refine ⟨kk.1, fun p l e R s m args below meth c H locs lsA n0 w0 Q cx hl hR hlo e1 e2 e3 e4 hq => ?_⟩
  exact lv_goto cx.1 cx.2.1 hd ht (kk.2 p l e R s m args below meth c H locs lsA n0 w0 Q cx hl hR hlo e1 e2 e3 e4 hq)
theorem px_ifnull_t  {off : Int} {tgt : Nat} (hd : decode μ.2.1 pc = .ok (.ifnull off, 3)) (ht : (pc : Int) + off = (tgt : Int)) (kk : EX B D d μ tgt ls st h r h1) : EX B D d μ pc ls (.null :: st) h r h1 := by
  refine ⟨kk.1, fun p l e R s m args below meth c H locs lsA n0 w0 Q cx hl hR hlo e1 e2 e3 e4 hq => ?_⟩
  exact lv_ifnullN cx.1 cx.2.1 hd ht (kk.2 p l e R s m args below meth c H locs lsA n0 w0 Q cx hl hR hlo e1 e2 e3 e4 hq)
theorem px_ifnull_f {a : Nat} {off : Int} (hd : decode μ.2.1 pc = .ok (.ifnull off, 3)) (kk : EX B D d μ (pc + 3) ls st h r h1) : EX B D d μ pc ls (.ref a :: st) h r h1 := by
  refine ⟨kk.1, fun p l e R s m args below meth c H locs lsA n0 w0 Q cx hl hR hlo e1 e2 e3 e4 hq => ?_⟩
  exact lv_ifnull cx.1 cx.2.1 hd (kk.2 p l e R s m args below meth c H locs lsA n0 w0 Q cx hl hR hlo e1 e2 e3 e4 hq)
theorem px_ifnonnull_t {a : Nat} {off : Int} {tgt : Nat} (hd : decode μ.2.1 pc = .ok (.ifnonnull off, 3)) (ht : (pc : Int) + off = (tgt : Int)) (kk : EX B D d μ tgt ls st h r h1) : EX B D d μ pc ls (.ref a :: st) h r h1 := by
  refine ⟨kk.1, fun p l e R s m args below meth c H locs lsA n0 w0 Q cx hl hR hlo e1 e2 e3 e4 hq => ?_⟩
  exact lv_ifnonnull cx.1 cx.2.1 hd ht (kk.2 p l e R s m args below meth c H locs lsA n0 w0 Q cx hl hR hlo e1 e2 e3 e4 hq)
theorem px_ifnonnull_f  {off : Int} (hd : decode μ.2.1 pc = .ok (.ifnonnull off, 3)) (kk : EX B D d μ (pc + 3) ls st h r h1) : EX B D d μ pc ls (.null :: st) h r h1 := by
  refine ⟨kk.1, fun p l e R s m args below meth c H locs lsA n0 w0 Q cx hl hR hlo e1 e2 e3 e4 hq => ?_⟩
  exact lv_ifnonnullN cx.1 cx.2.1 hd (kk.2 p l e R s m args below meth c H locs lsA n0 w0 Q cx hl hR hlo e1 e2 e3 e4 hq)
theorem px_tableOut {dflt lo hi : Int} {offs : Array Int} {len : Nat} {x : Int32} {tgt : Nat} (hd : decode μ.2.1 pc = .ok (.tableswitch dflt lo hi offs, len)) (hx : x.toInt < lo ∨ hi < x.toInt) (ht : (pc : Int) + dflt = (tgt : Int)) (kk : EX B D d μ tgt ls st h r h1) : EX B D d μ pc ls (.int x :: st) h r h1 := by
  refine ⟨kk.1, fun p l e R s m args below meth c H locs lsA n0 w0 Q cx hl hR hlo e1 e2 e3 e4 hq => ?_⟩
  exact lv_tableOut cx.1 cx.2.1 hd hx ht (kk.2 p l e R s m args below meth c H locs lsA n0 w0 Q cx hl hR hlo e1 e2 e3 e4 hq)
theorem px_tableIn {dflt lo hi : Int} {offs : Array Int} {len : Nat} {x : Int32} {off : Int} {tgt : Nat} (hd : decode μ.2.1 pc = .ok (.tableswitch dflt lo hi offs, len)) (hx1 : ¬ x.toInt < lo) (hx2 : ¬ hi < x.toInt) (ho : offs[(x.toInt - lo).toNat]? = some off) (ht : (pc : Int) + off = (tgt : Int)) (kk : EX B D d μ tgt ls st h r h1) : EX B D d μ pc ls (.int x :: st) h r h1 := by
  refine ⟨kk.1, fun p l e R s m args below meth c H locs lsA n0 w0 Q cx hl hR hlo e1 e2 e3 e4 hq => ?_⟩
  exact lv_tableIn cx.1 cx.2.1 hd hx1 hx2 ho ht (kk.2 p l e R s m args below meth c H locs lsA n0 w0 Q cx hl hR hlo e1 e2 e3 e4 hq)

theorem px_istore_n {k : Fin 4} {x : Int32} (hn : ∀ z, 0 < (k : Nat) → ls[(k : Nat) - 1]? = some z → pm_nl z = true) (hi : (k : Nat) < ls.length) (hd : decode μ.2.1 pc = .ok (.istore_n k, 1)) (kk : EX B D d μ (pc + 1) (ls.set (k : Nat) (some (.int x))) st h r h1) : EX B D d μ pc ls (.int x :: st) h r h1 := by
  refine ⟨kk.1, fun p l e R s m args below meth c H locs lsA n0 w0 Q cx hl hR hlo e1 e2 e3 e4 hq => ?_⟩
  exact lv_istore_n cx.1 cx.2.1 hd rfl hl.has (by rw [← hl.2.2.1]; exact hi) rfl (fun lsB hB => kk.2 p l e R s m args below meth c H locs lsB n0 w0 Q cx (pm_L.put1 hl hn hB) hR hlo e1 e2 e3 e4 hq)
theorem px_istore {i : Nat} {x : Int32} (hn : ∀ z, 0 < i → ls[i - 1]? = some z → pm_nl z = true) (hi : i < ls.length) (hd : decode μ.2.1 pc = .ok (.istore i, 2)) (kk : EX B D d μ (pc + 2) (ls.set i (some (.int x))) st h r h1) : EX B D d μ pc ls (.int x :: st) h r h1 := by
  refine ⟨kk.1, fun p l e R s m args below meth c H locs lsA n0 w0 Q cx hl hR hlo e1 e2 e3 e4 hq => ?_⟩
  exact lv_istore cx.1 cx.2.1 hd hl.has (by rw [← hl.2.2.1]; exact hi) rfl (fun lsB hB => kk.2 p l e R s m args below meth c H locs lsB n0 w0 Q cx (pm_L.put1 hl hn hB) hR hlo e1 e2 e3 e4 hq)

theorem px_lstore_n {k : Fin 4} {x : Int64} (hn : ∀ z, 0 < (k : Nat) → ls[(k : Nat) - 1]? = some z → pm_nl z = true) (hi : (k : Nat) + 1 < ls.length) (hd : decode μ.2.1 pc = .ok (.lstore_n k, 1)) (kk : EX B D d μ (pc + 1) ((ls.set (k : Nat) (some (.long x))).set ((k : Nat) + 1) none) st h r h1) : EX B D d μ pc ls (.long x :: st) h r h1 := by
  refine ⟨kk.1, fun p l e R s m args below meth c H locs lsA n0 w0 Q cx hl hR hlo e1 e2 e3 e4 hq => ?_⟩
  exact lv_lstore_n cx.1 cx.2.1 hd rfl hl.has (by rw [← hl.2.2.1]; exact hi) rfl (fun lsB hB => kk.2 p l e R s m args below meth c H locs lsB n0 w0 Q cx (pm_L.put2 hl hn hB) hR hlo e1 e2 e3 e4 hq)
theorem px_lstore {i : Nat} {x : Int64} (hn : ∀ z, 0 < i → ls[i - 1]? = some z → pm_nl z = true) (hi : i + 1 < ls.length) (hd : decode μ.2.1 pc = .ok (.lstore i, 2)) (kk : EX B D d μ (pc + 2) ((ls.set i (some (.long x))).set (i + 1) none) st h r h1) : EX B D d μ pc ls (.long x :: st) h r h1 := by
  refine ⟨kk.1, fun p l e R s m args below meth c H locs lsA n0 w0 Q cx hl hR hlo e1 e2 e3 e4 hq => ?_⟩
  exact lv_lstore cx.1 cx.2.1 hd hl.has (by rw [← hl.2.2.1]; exact hi) rfl (fun lsB hB => kk.2 p l e R s m args below meth c H locs lsB n0 w0 Q cx (pm_L.put2 hl hn hB) hR hlo e1 e2 e3 e4 hq)

theorem px_astore_n {k : Fin 4} {x : Nat} (hn : ∀ z, 0 < (k : Nat) → ls[(k : Nat) - 1]? = some z → pm_nl z = true) (hi : (k : Nat) < ls.length) (hd : decode μ.2.1 pc = .ok (.astore_n k, 1)) (kk : EX B D d μ (pc + 1) (ls.set (k : Nat) (some (.ref x))) st h r h1) : EX B D d μ pc ls (.ref x :: st) h r h1 := by
  refine ⟨kk.1, fun p l e R s m args below meth c H locs lsA n0 w0 Q cx hl hR hlo e1 e2 e3 e4 hq => ?_⟩
  exact lv_astore_n cx.1 cx.2.1 hd rfl hl.has (by rw [← hl.2.2.1]; exact hi) rfl (fun lsB hB => kk.2 p l e R s m args below meth c H locs lsB n0 w0 Q cx (pm_L.put1 hl hn hB) hR hlo e1 e2 e3 e4 hq)
theorem px_astore {i : Nat} {x : Nat} (hn : ∀ z, 0 < i → ls[i - 1]? = some z → pm_nl z = true) (hi : i < ls.length) (hd : decode μ.2.1 pc = .ok (.astore i, 2)) (kk : EX B D d μ (pc + 2) (ls.set i (some (.ref x))) st h r h1) : EX B D d μ pc ls (.ref x :: st) h r h1 := by
  refine ⟨kk.1, fun p l e R s m args below meth c H locs lsA n0 w0 Q cx hl hR hlo e1 e2 e3 e4 hq => ?_⟩
  exact lv_astore cx.1 cx.2.1 hd hl.has (by rw [← hl.2.2.1]; exact hi) rfl (fun lsB hB => kk.2 p l e R s m args below meth c H locs lsB n0 w0 Q cx (pm_L.put1 hl hn hB) hR hlo e1 e2 e3 e4 hq)

theorem px_astoreN_n {k : Fin 4}  (hn : ∀ z, 0 < (k : Nat) → ls[(k : Nat) - 1]? = some z → pm_nl z = true) (hi : (k : Nat) < ls.length) (hd : decode μ.2.1 pc = .ok (.astore_n k, 1)) (kk : EX B D d μ (pc + 1) (ls.set (k : Nat) (some (.null))) st h r h1) : EX B D d μ pc ls (.null :: st) h r h1 := by
  refine ⟨kk.1, fun p l e R s m args below meth c H locs lsA n0 w0 Q cx hl hR hlo e1 e2 e3 e4 hq => ?_⟩
  exact lv_astore_nN cx.1 cx.2.1 hd rfl hl.has (by rw [← hl.2.2.1]; exact hi) rfl (fun lsB hB => kk.2 p l e R s m args below meth c H locs lsB n0 w0 Q cx (pm_L.put1 hl hn hB) hR hlo e1 e2 e3 e4 hq)
theorem px_astoreN {i : Nat}  (hn : ∀ z, 0 < i → ls[i - 1]? = some z → pm_nl z = true) (hi : i < ls.length) (hd : decode μ.2.1 pc = .ok (.astore i, 2)) (kk : EX B D d μ (pc + 2) (ls.set i (some (.null))) st h r h1) : EX B D d μ pc ls (.null :: st) h r h1 := by
  refine ⟨kk.1, fun p l e R s m args below meth c H locs lsA n0 w0 Q cx hl hR hlo e1 e2 e3 e4 hq => ?_⟩
  exact lv_astoreN cx.1 cx.2.1 hd hl.has (by rw [← hl.2.2.1]; exact hi) rfl (fun lsB hB => kk.2 p l e R s m args below meth c H locs lsB n0 w0 Q cx (pm_L.put1 hl hn hB) hR hlo e1 e2 e3 e4 hq)
theorem px_iinc {i : Nat} {n : Int} {x v : Int32} (hn : ∀ z, 0 < i → ls[i - 1]? = some z → pm_nl z = true) (hv : ls[i]? = some (some (.int x))) (hc : x + Int32.ofInt n = v) (hd : decode μ.2.1 pc = .ok (.iinc i n, 3)) (kk : EX B D d μ (pc + 3) (ls.set i (some (.int v))) st h r h1) : EX B D d μ pc ls st h r h1 := by
  refine ⟨kk.1, fun p l e R s m args below meth c H locs lsA n0 w0 Q cx hl hR hlo e1 e2 e3 e4 hq => ?_⟩
  obtain ⟨k, hk⟩ := List.getElem?_of_mem (pm_lv_mem.mpr hv)
  exact lv_iinc cx.1 cx.2.1 hd hl.has hk hc (by rw [← hl.2.2.1]; exact (List.getElem?_eq_some_iff.mp hv).1) rfl (fun lsB hB => kk.2 p l e R s m args below meth c H locs lsB n0 w0 Q cx (pm_L.put1 hl hn hB) hR hlo e1 e2 e3 e4 hq)
theorem px_istore0 {c : Option Value} {t : pm_Ls} {x : Int32} (hd : decode μ.2.1 pc = .ok (.istore_n 0, 1)) (kk : EX B D d μ (pc + 1) (some (.int x) :: t) st h r h1) : EX B D d μ pc (c :: t) (.int x :: st) h r h1 :=
  px_istore_n (k := 0) (ls := c :: t) (fun z hz => absurd hz (by decide)) (by show 0 < _; simp) hd kk
theorem px_lstore0 {c c2 : Option Value} {t : pm_Ls} {x : Int64} (hd : decode μ.2.1 pc = .ok (.lstore_n 0, 1)) (kk : EX B D d μ (pc + 1) (some (.long x) :: none :: t) st h r h1) : EX B D d μ pc (c :: c2 :: t) (.long x :: st) h r h1 :=
  px_lstore_n (k := 0) (ls := c :: c2 :: t) (fun z hz => absurd hz (by decide)) (by show 0 + 1 < _; simp) hd kk
theorem px_astore0 {c : Option Value} {t : pm_Ls} {x : Nat} (hd : decode μ.2.1 pc = .ok (.astore_n 0, 1)) (kk : EX B D d μ (pc + 1) (some (.ref x) :: t) st h r h1) : EX B D d μ pc (c :: t) (.ref x :: st) h r h1 :=
  px_astore_n (k := 0) (ls := c :: t) (fun z hz => absurd hz (by decide)) (by show 0 < _; simp) hd kk
theorem px_astoreN0 {c : Option Value} {t : pm_Ls}  (hd : decode μ.2.1 pc = .ok (.astore_n 0, 1)) (kk : EX B D d μ (pc + 1) (some (.null) :: t) st h r h1) : EX B D d μ pc (c :: t) (.null :: st) h r h1 :=
  px_astoreN_n (k := 0) (ls := c :: t) (fun z hz => absurd hz (by decide)) (by show 0 < _; simp) hd kk
theorem px_iinc0 {t : pm_Ls} {n : Int} {x v : Int32} (hc : x + Int32.ofInt n = v) (hd : decode μ.2.1 pc = .ok (.iinc 0 n, 3)) (kk : EX B D d μ (pc + 3) (some (.int v) :: t) st h r h1) : EX B D d μ pc (some (.int x) :: t) st h r h1 :=
  px_iinc (i := 0) (ls := some (.int x) :: t) (fun z hz => absurd hz (by decide)) (by simp) hc hd kk
theorem px_istore1 {a0 : Option Value} {c : Option Value} {t : pm_Ls} {x : Int32} (hb : pm_nl a0 = true) (hd : decode μ.2.1 pc = .ok (.istore_n 1, 1)) (kk : EX B D d μ (pc + 1) (a0 :: some (.int x) :: t) st h r h1) : EX B D d μ pc (a0 :: c :: t) (.int x :: st) h r h1 :=
  px_istore_n (k := 1) (ls := a0 :: c :: t) (fun z hz he => by cases he; exact hb) (by show 1 < _; simp) hd kk
theorem px_lstore1 {a0 : Option Value} {c c2 : Option Value} {t : pm_Ls} {x : Int64} (hb : pm_nl a0 = true) (hd : decode μ.2.1 pc = .ok (.lstore_n 1, 1)) (kk : EX B D d μ (pc + 1) (a0 :: some (.long x) :: none :: t) st h r h1) : EX B D d μ pc (a0 :: c :: c2 :: t) (.long x :: st) h r h1 :=
  px_lstore_n (k := 1) (ls := a0 :: c :: c2 :: t) (fun z hz he => by cases he; exact hb) (by show 1 + 1 < _; simp) hd kk
theorem px_astore1 {a0 : Option Value} {c : Option Value} {t : pm_Ls} {x : Nat} (hb : pm_nl a0 = true) (hd : decode μ.2.1 pc = .ok (.astore_n 1, 1)) (kk : EX B D d μ (pc + 1) (a0 :: some (.ref x) :: t) st h r h1) : EX B D d μ pc (a0 :: c :: t) (.ref x :: st) h r h1 :=
  px_astore_n (k := 1) (ls := a0 :: c :: t) (fun z hz he => by cases he; exact hb) (by show 1 < _; simp) hd kk
theorem px_astoreN1 {a0 : Option Value} {c : Option Value} {t : pm_Ls}  (hb : pm_nl a0 = true) (hd : decode μ.2.1 pc = .ok (.astore_n 1, 1)) (kk : EX B D d μ (pc + 1) (a0 :: some (.null) :: t) st h r h1) : EX B D d μ pc (a0 :: c :: t) (.null :: st) h r h1 :=
  px_astoreN_n (k := 1) (ls := a0 :: c :: t) (fun z hz he => by cases he; exact hb) (by show 1 < _; simp) hd kk
theorem px_iinc1 {a0 : Option Value} {t : pm_Ls} {n : Int} {x v : Int32} (hb : pm_nl a0 = true) (hc : x + Int32.ofInt n = v) (hd : decode μ.2.1 pc = .ok (.iinc 1 n, 3)) (kk : EX B D d μ (pc + 3) (a0 :: some (.int v) :: t) st h r h1) : EX B D d μ pc (a0 :: some (.int x) :: t) st h r h1 :=
  px_iinc (i := 1) (ls := a0 :: some (.int x) :: t) (fun z hz he => by cases he; exact hb) (by simp) hc hd kk
theorem px_istore2 {a0 a1 : Option Value} {c : Option Value} {t : pm_Ls} {x : Int32} (hb : pm_nl a1 = true) (hd : decode μ.2.1 pc = .ok (.istore_n 2, 1)) (kk : EX B D d μ (pc + 1) (a0 :: a1 :: some (.int x) :: t) st h r h1) : EX B D d μ pc (a0 :: a1 :: c :: t) (.int x :: st) h r h1 :=
  px_istore_n (k := 2) (ls := a0 :: a1 :: c :: t) (fun z hz he => by cases he; exact hb) (by show 2 < _; simp) hd kk
theorem px_lstore2 {a0 a1 : Option Value} {c c2 : Option Value} {t : pm_Ls} {x : Int64} (hb : pm_nl a1 = true) (hd : decode μ.2.1 pc = .ok (.lstore_n 2, 1)) (kk : EX B D d μ (pc + 1) (a0 :: a1 :: some (.long x) :: none :: t) st h r h1) : EX B D d μ pc (a0 :: a1 :: c :: c2 :: t) (.long x :: st) h r h1 :=
  px_lstore_n (k := 2) (ls := a0 :: a1 :: c :: c2 :: t) (fun z hz he => by cases he; exact hb) (by show 2 + 1 < _; simp) hd kk
theorem px_astore2 {a0 a1 : Option Value} {c : Option Value} {t : pm_Ls} {x : Nat} (hb : pm_nl a1 = true) (hd : decode μ.2.1 pc = .ok (.astore_n 2, 1)) (kk : EX B D d μ (pc + 1) (a0 :: a1 :: some (.ref x) :: t) st h r h1) : EX B D d μ pc (a0 :: a1 :: c :: t) (.ref x :: st) h r h1 :=
  px_astore_n (k := 2) (ls := a0 :: a1 :: c :: t) (fun z hz he => by cases he; exact hb) (by show 2 < _; simp) hd kk
theorem px_astoreN2 {a0 a1 : Option Value} {c : Option Value} {t : pm_Ls}  (hb : pm_nl a1 = true) (hd : decode μ.2.1 pc = .ok (.astore_n 2, 1)) (kk : EX B D d μ (pc + 1) (a0 :: a1 :: some (.null) :: t) st h r h1) : EX B D d μ pc (a0 :: a1 :: c :: t) (.null :: st) h r h1 :=
  px_astoreN_n (k := 2) (ls := a0 :: a1 :: c :: t) (fun z hz he => by cases he; exact hb) (by show 2 < _; simp) hd kk
theorem px_iinc2 {a0 a1 : Option Value} {t : pm_Ls} {n : Int} {x v : Int32} (hb : pm_nl a1 = true) (hc : x + Int32.ofInt n = v) (hd : decode μ.2.1 pc = .ok (.iinc 2 n, 3)) (kk : EX B D d μ (pc + 3) (a0 :: a1 :: some (.int v) :: t) st h r h1) : EX B D d μ pc (a0 :: a1 :: some (.int x) :: t) st h r h1 :=
  px_iinc (i := 2) (ls := a0 :: a1 :: some (.int x) :: t) (fun z hz he => by cases he; exact hb) (by simp) hc hd kk
theorem px_istore3 {a0 a1 a2 : Option Value} {c : Option Value} {t : pm_Ls} {x : Int32} (hb : pm_nl a2 = true) (hd : decode μ.2.1 pc = .ok (.istore_n 3, 1)) (kk : EX B D d μ (pc + 1) (a0 :: a1 :: a2 :: some (.int x) :: t) st h r h1) : EX B D d μ pc (a0 :: a1 :: a2 :: c :: t) (.int x :: st) h r h1 :=
  px_istore_n (k := 3) (ls := a0 :: a1 :: a2 :: c :: t) (fun z hz he => by cases he; exact hb) (by show 3 < _; simp) hd kk
theorem px_lstore3 {a0 a1 a2 : Option Value} {c c2 : Option Value} {t : pm_Ls} {x : Int64} (hb : pm_nl a2 = true) (hd : decode μ.2.1 pc = .ok (.lstore_n 3, 1)) (kk : EX B D d μ (pc + 1) (a0 :: a1 :: a2 :: some (.long x) :: none :: t) st h r h1) : EX B D d μ pc (a0 :: a1 :: a2 :: c :: c2 :: t) (.long x :: st) h r h1 :=
  px_lstore_n (k := 3) (ls := a0 :: a1 :: a2 :: c :: c2 :: t) (fun z hz he => by cases he; exact hb) (by show 3 + 1 < _; simp) hd kk
theorem px_astore3 {a0 a1 a2 : Option Value} {c : Option Value} {t : pm_Ls} {x : Nat} (hb : pm_nl a2 = true) (hd : decode μ.2.1 pc = .ok (.astore_n 3, 1)) (kk : EX B D d μ (pc + 1) (a0 :: a1 :: a2 :: some (.ref x) :: t) st h r h1) : EX B D d μ pc (a0 :: a1 :: a2 :: c :: t) (.ref x :: st) h r h1 :=
  px_astore_n (k := 3) (ls := a0 :: a1 :: a2 :: c :: t) (fun z hz he => by cases he; exact hb) (by show 3 < _; simp) hd kk
theorem px_astoreN3 {a0 a1 a2 : Option Value} {c : Option Value} {t : pm_Ls}  (hb : pm_nl a2 = true) (hd : decode μ.2.1 pc = .ok (.astore_n 3, 1)) (kk : EX B D d μ (pc + 1) (a0 :: a1 :: a2 :: some (.null) :: t) st h r h1) : EX B D d μ pc (a0 :: a1 :: a2 :: c :: t) (.null :: st) h r h1 :=
  px_astoreN_n (k := 3) (ls := a0 :: a1 :: a2 :: c :: t) (fun z hz he => by cases he; exact hb) (by show 3 < _; simp) hd kk
theorem px_iinc3 {a0 a1 a2 : Option Value} {t : pm_Ls} {n : Int} {x v : Int32} (hb : pm_nl a2 = true) (hc : x + Int32.ofInt n = v) (hd : decode μ.2.1 pc = .ok (.iinc 3 n, 3)) (kk : EX B D d μ (pc + 3) (a0 :: a1 :: a2 :: some (.int v) :: t) st h r h1) : EX B D d μ pc (a0 :: a1 :: a2 :: some (.int x) :: t) st h r h1 :=
  px_iinc (i := 3) (ls := a0 :: a1 :: a2 :: some (.int x) :: t) (fun z hz he => by cases he; exact hb) (by simp) hc hd kk
theorem px_istore4 {a0 a1 a2 a3 : Option Value} {c : Option Value} {t : pm_Ls} {x : Int32} (hb : pm_nl a3 = true) (hd : decode μ.2.1 pc = .ok (.istore 4, 2)) (kk : EX B D d μ (pc + 2) (a0 :: a1 :: a2 :: a3 :: some (.int x) :: t) st h r h1) : EX B D d μ pc (a0 :: a1 :: a2 :: a3 :: c :: t) (.int x :: st) h r h1 :=
  px_istore (i := 4) (ls := a0 :: a1 :: a2 :: a3 :: c :: t) (fun z hz he => by cases he; exact hb) (by show 4 < _; simp) hd kk
theorem px_lstore4 {a0 a1 a2 a3 : Option Value} {c c2 : Option Value} {t : pm_Ls} {x : Int64} (hb : pm_nl a3 = true) (hd : decode μ.2.1 pc = .ok (.lstore 4, 2)) (kk : EX B D d μ (pc + 2) (a0 :: a1 :: a2 :: a3 :: some (.long x) :: none :: t) st h r h1) : EX B D d μ pc (a0 :: a1 :: a2 :: a3 :: c :: c2 :: t) (.long x :: st) h r h1 :=
  px_lstore (i := 4) (ls := a0 :: a1 :: a2 :: a3 :: c :: c2 :: t) (fun z hz he => by cases he; exact hb) (by show 4 + 1 < _; simp) hd kk
theorem px_astore4 {a0 a1 a2 a3 : Option Value} {c : Option Value} {t : pm_Ls} {x : Nat} (hb : pm_nl a3 = true) (hd : decode μ.2.1 pc = .ok (.astore 4, 2)) (kk : EX B D d μ (pc + 2) (a0 :: a1 :: a2 :: a3 :: some (.ref x) :: t) st h r h1) : EX B D d μ pc (a0 :: a1 :: a2 :: a3 :: c :: t) (.ref x :: st) h r h1 :=
  px_astore (i := 4) (ls := a0 :: a1 :: a2 :: a3 :: c :: t) (fun z hz he => by cases he; exact hb) (by show 4 < _; simp) hd kk
theorem px_astoreN4 {a0 a1 a2 a3 : Option Value} {c : Option Value} {t : pm_Ls}  (hb : pm_nl a3 = true) (hd : decode μ.2.1 pc = .ok (.astore 4, 2)) (kk : EX B D d μ (pc + 2) (a0 :: a1 :: a2 :: a3 :: some (.null) :: t) st h r h1) : EX B D d μ pc (a0 :: a1 :: a2 :: a3 :: c :: t) (.null :: st) h r h1 :=
  px_astoreN (i := 4) (ls := a0 :: a1 :: a2 :: a3 :: c :: t) (fun z hz he => by cases he; exact hb) (by show 4 < _; simp) hd kk
theorem px_iinc4 {a0 a1 a2 a3 : Option Value} {t : pm_Ls} {n : Int} {x v : Int32} (hb : pm_nl a3 = true) (hc : x + Int32.ofInt n = v) (hd : decode μ.2.1 pc = .ok (.iinc 4 n, 3)) (kk : EX B D d μ (pc + 3) (a0 :: a1 :: a2 :: a3 :: some (.int v) :: t) st h r h1) : EX B D d μ pc (a0 :: a1 :: a2 :: a3 :: some (.int x) :: t) st h r h1 :=
  px_iinc (i := 4) (ls := a0 :: a1 :: a2 :: a3 :: some (.int x) :: t) (fun z hz he => by cases he; exact hb) (by simp) hc hd kk
theorem px_istore5 {a0 a1 a2 a3 a4 : Option Value} {c : Option Value} {t : pm_Ls} {x : Int32} (hb : pm_nl a4 = true) (hd : decode μ.2.1 pc = .ok (.istore 5, 2)) (kk : EX B D d μ (pc + 2) (a0 :: a1 :: a2 :: a3 :: a4 :: some (.int x) :: t) st h r h1) : EX B D d μ pc (a0 :: a1 :: a2 :: a3 :: a4 :: c :: t) (.int x :: st) h r h1 :=
  px_istore (i := 5) (ls := a0 :: a1 :: a2 :: a3 :: a4 :: c :: t) (fun z hz he => by cases he; exact hb) (by show 5 < _; simp) hd kk
theorem px_lstore5 {a0 a1 a2 a3 a4 : Option Value} {c c2 : Option Value} {t : pm_Ls} {x : Int64} (hb : pm_nl a4 = true) (hd : decode μ.2.1 pc = .ok (.lstore 5, 2)) (kk : EX B D d μ (pc + 2) (a0 :: a1 :: a2 :: a3 :: a4 :: some (.long x) :: none :: t) st h r h1) : EX B D d μ pc (a0 :: a1 :: a2 :: a3 :: a4 :: c :: c2 :: t) (.long x :: st) h r h1 :=
  px_lstore (i := 5) (ls := a0 :: a1 :: a2 :: a3 :: a4 :: c :: c2 :: t) (fun z hz he => by cases he; exact hb) (by show 5 + 1 < _; simp) hd kk
theorem px_astore5 {a0 a1 a2 a3 a4 : Option Value} {c : Option Value} {t : pm_Ls} {x : Nat} (hb : pm_nl a4 = true) (hd : decode μ.2.1 pc = .ok (.astore 5, 2)) (kk : EX B D d μ (pc + 2) (a0 :: a1 :: a2 :: a3 :: a4 :: some (.ref x) :: t) st h r h1) : EX B D d μ pc (a0 :: a1 :: a2 :: a3 :: a4 :: c :: t) (.ref x :: st) h r h1 :=
  px_astore (i := 5) (ls := a0 :: a1 :: a2 :: a3 :: a4 :: c :: t) (fun z hz he => by cases he; exact hb) (by show 5 < _; simp) hd kk
theorem px_astoreN5 {a0 a1 a2 a3 a4 : Option Value} {c : Option Value} {t : pm_Ls}  (hb : pm_nl a4 = true) (hd : decode μ.2.1 pc = .ok (.astore 5, 2)) (kk : EX B D d μ (pc + 2) (a0 :: a1 :: a2 :: a3 :: a4 :: some (.null) :: t) st h r h1) : EX B D d μ pc (a0 :: a1 :: a2 :: a3 :: a4 :: c :: t) (.null :: st) h r h1 :=
  px_astoreN (i := 5) (ls := a0 :: a1 :: a2 :: a3 :: a4 :: c :: t) (fun z hz he => by cases he; exact hb) (by show 5 < _; simp) hd kk
theorem px_iinc5 {a0 a1 a2 a3 a4 : Option Value} {t : pm_Ls} {n : Int} {x v : Int32} (hb : pm_nl a4 = true) (hc : x + Int32.ofInt n = v) (hd : decode μ.2.1 pc = .ok (.iinc 5 n, 3)) (kk : EX B D d μ (pc + 3) (a0 :: a1 :: a2 :: a3 :: a4 :: some (.int v) :: t) st h r h1) : EX B D d μ pc (a0 :: a1 :: a2 :: a3 :: a4 :: some (.int x) :: t) st h r h1 :=
  px_iinc (i := 5) (ls := a0 :: a1 :: a2 :: a3 :: a4 :: some (.int x) :: t) (fun z hz he => by cases he; exact hb) (by simp) hc hd kk
theorem px_istore6 {a0 a1 a2 a3 a4 a5 : Option Value} {c : Option Value} {t : pm_Ls} {x : Int32} (hb : pm_nl a5 = true) (hd : decode μ.2.1 pc = .ok (.istore 6, 2)) (kk : EX B D d μ (pc + 2) (a0 :: a1 :: a2 :: a3 :: a4 :: a5 :: some (.int x) :: t) st h r h1) : EX B D d μ pc (a0 :: a1 :: a2 :: a3 :: a4 :: a5 :: c :: t) (.int x :: st) h r h1 :=
  px_istore (i := 6) (ls := a0 :: a1 :: a2 :: a3 :: a4 :: a5 :: c :: t) (fun z hz he => by cases he; exact hb) (by show 6 < _; simp) hd kk
theorem px_lstore6 {a0 a1 a2 a3 a4 a5 : Option Value} {c c2 : Option Value} {t : pm_Ls} {x : Int64} (hb : pm_nl a5 = true) (hd : decode μ.2.1 pc = .ok (.lstore 6, 2)) (kk : EX B D d μ (pc + 2) (a0 :: a1 :: a2 :: a3 :: a4 :: a5 :: some (.long x) :: none :: t) st h r h1) : EX B D d μ pc (a0 :: a1 :: a2 :: a3 :: a4 :: a5 :: c :: c2 :: t) (.long x :: st) h r h1 :=
  px_lstore (i := 6) (ls := a0 :: a1 :: a2 :: a3 :: a4 :: a5 :: c :: c2 :: t) (fun z hz he => by cases he; exact hb) (by show 6 + 1 < _; simp) hd kk
theorem px_astore6 {a0 a1 a2 a3 a4 a5 : Option Value} {c : Option Value} {t : pm_Ls} {x : Nat} (hb : pm_nl a5 = true) (hd : decode μ.2.1 pc = .ok (.astore 6, 2)) (kk : EX B D d μ (pc + 2) (a0 :: a1 :: a2 :: a3 :: a4 :: a5 :: some (.ref x) :: t) st h r h1) : EX B D d μ pc (a0 :: a1 :: a2 :: a3 :: a4 :: a5 :: c :: t) (.ref x :: st) h r h1 :=
  px_astore (i := 6) (ls := a0 :: a1 :: a2 :: a3 :: a4 :: a5 :: c :: t) (fun z hz he => by cases he; exact hb) (by show 6 < _; simp) hd kk
theorem px_astoreN6 {a0 a1 a2 a3 a4 a5 : Option Value} {c : Option Value} {t : pm_Ls}  (hb : pm_nl a5 = true) (hd : decode μ.2.1 pc = .ok (.astore 6, 2)) (kk : EX B D d μ (pc + 2) (a0 :: a1 :: a2 :: a3 :: a4 :: a5 :: some (.null) :: t) st h r h1) : EX B D d μ pc (a0 :: a1 :: a2 :: a3 :: a4 :: a5 :: c :: t) (.null :: st) h r h1 :=
  px_astoreN (i := 6) (ls := a0 :: a1 :: a2 :: a3 :: a4 :: a5 :: c :: t) (fun z hz he => by cases he; exact hb) (by show 6 < _; simp) hd kk
theorem px_iinc6 {a0 a1 a2 a3 a4 a5 : Option Value} {t : pm_Ls} {n : Int} {x v : Int32} (hb : pm_nl a5 = true) (hc : x + Int32.ofInt n = v) (hd : decode μ.2.1 pc = .ok (.iinc 6 n, 3)) (kk : EX B D d μ (pc + 3) (a0 :: a1 :: a2 :: a3 :: a4 :: a5 :: some (.int v) :: t) st h r h1) : EX B D d μ pc (a0 :: a1 :: a2 :: a3 :: a4 :: a5 :: some (.int x) :: t) st h r h1 :=
  px_iinc (i := 6) (ls := a0 :: a1 :: a2 :: a3 :: a4 :: a5 :: some (.int x) :: t) (fun z hz he => by cases he; exact hb) (by simp) hc hd kk
theorem px_istore7 {a0 a1 a2 a3 a4 a5 a6 : Option Value} {c : Option Value} {t : pm_Ls} {x : Int32} (hb : pm_nl a6 = true) (hd : decode μ.2.1 pc = .ok (.istore 7, 2)) (kk : EX B D d μ (pc + 2) (a0 :: a1 :: a2 :: a3 :: a4 :: a5 :: a6 :: some (.int x) :: t) st h r h1) : EX B D d μ pc (a0 :: a1 :: a2 :: a3 :: a4 :: a5 :: a6 :: c :: t) (.int x :: st) h r h1 :=
  px_istore (i := 7) (ls := a0 :: a1 :: a2 :: a3 :: a4 :: a5 :: a6 :: c :: t) (fun z hz he => by cases he; exact hb) (by show 7 < _; simp) hd kk
theorem px_lstore7 {a0 a1 a2 a3 a4 a5 a6 : Option Value} {c c2 : Option Value} {t : pm_Ls} {x : Int64} (hb : pm_nl a6 = true) (hd : decode μ.2.1 pc = .ok (.lstore 7, 2)) (kk : EX B D d μ (pc + 2) (a0 :: a1 :: a2 :: a3 :: a4 :: a5 :: a6 :: some (.long x) :: none :: t) st h r h1) : EX B D d μ pc (a0 :: a1 :: a2 :: a3 :: a4 :: a5 :: a6 :: c :: c2 :: t) (.long x :: st) h r h1 :=
  px_lstore (i := 7) (ls := a0 :: a1 :: a2 :: a3 :: a4 :: a5 :: a6 :: c :: c2 :: t) (fun z hz he => by cases he; exact hb) (by show 7 + 1 < _; simp) hd kk
theorem px_astore7 {a0 a1 a2 a3 a4 a5 a6 : Option Value} {c : Option Value} {t : pm_Ls} {x : Nat} (hb : pm_nl a6 = true) (hd : decode μ.2.1 pc = .ok (.astore 7, 2)) (kk : EX B D d μ (pc + 2) (a0 :: a1 :: a2 :: a3 :: a4 :: a5 :: a6 :: some (.ref x) :: t) st h r h1) : EX B D d μ pc (a0 :: a1 :: a2 :: a3 :: a4 :: a5 :: a6 :: c :: t) (.ref x :: st) h r h1 :=
  px_astore (i := 7) (ls := a0 :: a1 :: a2 :: a3 :: a4 :: a5 :: a6 :: c :: t) (fun z hz he => by cases he; exact hb) (by show 7 < _; simp) hd kk
theorem px_astoreN7 {a0 a1 a2 a3 a4 a5 a6 : Option Value} {c : Option Value} {t : pm_Ls}  (hb : pm_nl a6 = true) (hd : decode μ.2.1 pc = .ok (.astore 7, 2)) (kk : EX B D d μ (pc + 2) (a0 :: a1 :: a2 :: a3 :: a4 :: a5 :: a6 :: some (.null) :: t) st h r h1) : EX B D d μ pc (a0 :: a1 :: a2 :: a3 :: a4 :: a5 :: a6 :: c :: t) (.null :: st) h r h1 :=
  px_astoreN (i := 7) (ls := a0 :: a1 :: a2 :: a3 :: a4 :: a5 :: a6 :: c :: t) (fun z hz he => by cases he; exact hb) (by show 7 < _; simp) hd kk
theorem px_iinc7 {a0 a1 a2 a3 a4 a5 a6 : Option Value} {t : pm_Ls} {n : Int} {x v : Int32} (hb : pm_nl a6 = true) (hc : x + Int32.ofInt n = v) (hd : decode μ.2.1 pc = .ok (.iinc 7 n, 3)) (kk : EX B D d μ (pc + 3) (a0 :: a1 :: a2 :: a3 :: a4 :: a5 :: a6 :: some (.int v) :: t) st h r h1) : EX B D d μ pc (a0 :: a1 :: a2 :: a3 :: a4 :: a5 :: a6 :: some (.int x) :: t) st h r h1 :=
  px_iinc (i := 7) (ls := a0 :: a1 :: a2 :: a3 :: a4 :: a5 :: a6 :: some (.int x) :: t) (fun z hz he => by cases he; exact hb) (by simp) hc hd kk
theorem px_istore8 {a0 a1 a2 a3 a4 a5 a6 a7 : Option Value} {c : Option Value} {t : pm_Ls} {x : Int32} (hb : pm_nl a7 = true) (hd : decode μ.2.1 pc = .ok (.istore 8, 2)) (kk : EX B D d μ (pc + 2) (a0 :: a1 :: a2 :: a3 :: a4 :: a5 :: a6 :: a7 :: some (.int x) :: t) st h r h1) : EX B D d μ pc (a0 :: a1 :: a2 :: a3 :: a4 :: a5 :: a6 :: a7 :: c :: t) (.int x :: st) h r h1 :=
  px_istore (i := 8) (ls := a0 :: a1 :: a2 :: a3 :: a4 :: a5 :: a6 :: a7 :: c :: t) (fun z hz he => by cases he; exact hb) (by show 8 < _; simp) hd kk
theorem px_lstore8 {a0 a1 a2 a3 a4 a5 a6 a7 : Option Value} {c c2 : Option Value} {t : pm_Ls} {x : Int64} (hb : pm_nl a7 = true) (hd : decode μ.2.1 pc = .ok (.lstore 8, 2)) (kk : EX B D d μ (pc + 2) (a0 :: a1 :: a2 :: a3 :: a4 :: a5 :: a6 :: a7 :: some (.long x) :: none :: t) st h r h1) : EX B D d μ pc (a0 :: a1 :: a2 :: a3 :: a4 :: a5 :: a6 :: a7 :: c :: c2 :: t) (.long x :: st) h r h1 :=
  px_lstore (i := 8) (ls := a0 :: a1 :: a2 :: a3 :: a4 :: a5 :: a6 :: a7 :: c :: c2 :: t) (fun z hz he => by cases he; exact hb) (by show 8 + 1 < _; simp) hd kk
theorem px_astore8 {a0 a1 a2 a3 a4 a5 a6 a7 : Option Value} {c : Option Value} {t : pm_Ls} {x : Nat} (hb : pm_nl a7 = true) (hd : decode μ.2.1 pc = .ok (.astore 8, 2)) (kk : EX B D d μ (pc + 2) (a0 :: a1 :: a2 :: a3 :: a4 :: a5 :: a6 :: a7 :: some (.ref x) :: t) st h r h1) : EX B D d μ pc (a0 :: a1 :: a2 :: a3 :: a4 :: a5 :: a6 :: a7 :: c :: t) (.ref x :: st) h r h1 :=
  px_astore (i := 8) (ls := a0 :: a1 :: a2 :: a3 :: a4 :: a5 :: a6 :: a7 :: c :: t) (fun z hz he => by cases he; exact hb) (by show 8 < _; simp) hd kk
theorem px_astoreN8 {a0 a1 a2 a3 a4 a5 a6 a7 : Option Value} {c : Option Value} {t : pm_Ls}  (hb : pm_nl a7 = true) (hd : decode μ.2.1 pc = .ok (.astore 8, 2)) (kk : EX B D d μ (pc + 2) (a0 :: a1 :: a2 :: a3 :: a4 :: a5 :: a6 :: a7 :: some (.null) :: t) st h r h1) : EX B D d μ pc (a0 :: a1 :: a2 :: a3 :: a4 :: a5 :: a6 :: a7 :: c :: t) (.null :: st) h r h1 :=
  px_astoreN (i := 8) (ls := a0 :: a1 :: a2 :: a3 :: a4 :: a5 :: a6 :: a7 :: c :: t) (fun z hz he => by cases he; exact hb) (by show 8 < _; simp) hd kk
theorem px_iinc8 {a0 a1 a2 a3 a4 a5 a6 a7 : Option Value} {t : pm_Ls} {n : Int} {x v : Int32} (hb : pm_nl a7 = true) (hc : x + Int32.ofInt n = v) (hd : decode μ.2.1 pc = .ok (.iinc 8 n, 3)) (kk : EX B D d μ (pc + 3) (a0 :: a1 :: a2 :: a3 :: a4 :: a5 :: a6 :: a7 :: some (.int v) :: t) st h r h1) : EX B D d μ pc (a0 :: a1 :: a2 :: a3 :: a4 :: a5 :: a6 :: a7 :: some (.int x) :: t) st h r h1 :=
  px_iinc (i := 8) (ls := a0 :: a1 :: a2 :: a3 :: a4 :: a5 :: a6 :: a7 :: some (.int x) :: t) (fun z hz he => by cases he; exact hb) (by simp) hc hd kk
theorem px_istore9 {a0 a1 a2 a3 a4 a5 a6 a7 a8 : Option Value} {c : Option Value} {t : pm_Ls} {x : Int32} (hb : pm_nl a8 = true) (hd : decode μ.2.1 pc = .ok (.istore 9, 2)) (kk : EX B D d μ (pc + 2) (a0 :: a1 :: a2 :: a3 :: a4 :: a5 :: a6 :: a7 :: a8 :: some (.int x) :: t) st h r h1) : EX B D d μ pc (a0 :: a1 :: a2 :: a3 :: a4 :: a5 :: a6 :: a7 :: a8 :: c :: t) (.int x :: st) h r h1 :=
  px_istore (i := 9) (ls := a0 :: a1 :: a2 :: a3 :: a4 :: a5 :: a6 :: a7 :: a8 :: c :: t) (fun z hz he => by cases he; exact hb) (by show 9 < _; simp) hd kk
theorem px_lstore9 {a0 a1 a2 a3 a4 a5 a6 a7 a8 : Option Value} {c c2 : Option Value} {t : pm_Ls} {x : Int64} (hb : pm_nl a8 = true) (hd : decode μ.2.1 pc = .ok (.lstore 9, 2)) (kk : EX B D d μ (pc + 2) (a0 :: a1 :: a2 :: a3 :: a4 :: a5 :: a6 :: a7 :: a8 :: some (.long x) :: none :: t) st h r h1) : EX B D d μ pc (a0 :: a1 :: a2 :: a3 :: a4 :: a5 :: a6 :: a7 :: a8 :: c :: c2 :: t) (.long x :: st) h r h1 :=
  px_lstore (i := 9) (ls := a0 :: a1 :: a2 :: a3 :: a4 :: a5 :: a6 :: a7 :: a8 :: c :: c2 :: t) (fun z hz he => by cases he; exact hb) (by show 9 + 1 < _; simp) hd kk
theorem px_astore9 {a0 a1 a2 a3 a4 a5 a6 a7 a8 : Option Value} {c : Option Value} {t : pm_Ls} {x : Nat} (hb : pm_nl a8 = true) (hd : decode μ.2.1 pc = .ok (.astore 9, 2)) (kk : EX B D d μ (pc + 2) (a0 :: a1 :: a2 :: a3 :: a4 :: a5 :: a6 :: a7 :: a8 :: some (.ref x) :: t) st h r h1) : EX B D d μ pc (a0 :: a1 :: a2 :: a3 :: a4 :: a5 :: a6 :: a7 :: a8 :: c :: t) (.ref x :: st) h r h1 :=
  px_astore (i := 9) (ls := a0 :: a1 :: a2 :: a3 :: a4 :: a5 :: a6 :: a7 :: a8 :: c :: t) (fun z hz he => by cases he; exact hb) (by show 9 < _; simp) hd kk
theorem px_astoreN9 {a0 a1 a2 a3 a4 a5 a6 a7 a8 : Option Value} {c : Option Value} {t : pm_Ls}  (hb : pm_nl a8 = true) (hd : decode μ.2.1 pc = .ok (.astore 9, 2)) (kk : EX B D d μ (pc + 2) (a0 :: a1 :: a2 :: a3 :: a4 :: a5 :: a6 :: a7 :: a8 :: some (.null) :: t) st h r h1) : EX B D d μ pc (a0 :: a1 :: a2 :: a3 :: a4 :: a5 :: a6 :: a7 :: a8 :: c :: t) (.null :: st) h r h1 :=
  px_astoreN (i := 9) (ls := a0 :: a1 :: a2 :: a3 :: a4 :: a5 :: a6 :: a7 :: a8 :: c :: t) (fun z hz he => by cases he; exact hb) (by show 9 < _; simp) hd kk
theorem px_iinc9 {a0 a1 a2 a3 a4 a5 a6 a7 a8 : Option Value} {t : pm_Ls} {n : Int} {x v : Int32} (hb : pm_nl a8 = true) (hc : x + Int32.ofInt n = v) (hd : decode μ.2.1 pc = .ok (.iinc 9 n, 3)) (kk : EX B D d μ (pc + 3) (a0 :: a1 :: a2 :: a3 :: a4 :: a5 :: a6 :: a7 :: a8 :: some (.int v) :: t) st h r h1) : EX B D d μ pc (a0 :: a1 :: a2 :: a3 :: a4 :: a5 :: a6 :: a7 :: a8 :: some (.int x) :: t) st h r h1 :=
  px_iinc (i := 9) (ls := a0 :: a1 :: a2 :: a3 :: a4 :: a5 :: a6 :: a7 :: a8 :: some (.int x) :: t) (fun z hz he => by cases he; exact hb) (by simp) hc hd kk
theorem px_istore10 {a0 a1 a2 a3 a4 a5 a6 a7 a8 a9 : Option Value} {c : Option Value} {t : pm_Ls} {x : Int32} (hb : pm_nl a9 = true) (hd : decode μ.2.1 pc = .ok (.istore 10, 2)) (kk : EX B D d μ (pc + 2) (a0 :: a1 :: a2 :: a3 :: a4 :: a5 :: a6 :: a7 :: a8 :: a9 :: some (.int x) :: t) st h r h1) : EX B D d μ pc (a0 :: a1 :: a2 :: a3 :: a4 :: a5 :: a6 :: a7 :: a8 :: a9 :: c :: t) (.int x :: st) h r h1 :=
  px_istore (i := 10) (ls := a0 :: a1 :: a2 :: a3 :: a4 :: a5 :: a6 :: a7 :: a8 :: a9 :: c :: t) (fun z hz he => by cases he; exact hb) (by show 10 < _; simp) hd kk
theorem px_lstore10 {a0 a1 a2 a3 a4 a5 a6 a7 a8 a9 : Option Value} {c c2 : Option Value} {t : pm_Ls} {x : Int64} (hb : pm_nl a9 = true) (hd : decode μ.2.1 pc = .ok (.lstore 10, 2)) (kk : EX B D d μ (pc + 2) (a0 :: a1 :: a2 :: a3 :: a4 :: a5 :: a6 :: a7 :: a8 :: a9 :: some (.long x) :: none :: t) st h r h1) : EX B D d μ pc (a0 :: a1 :: a2 :: a3 :: a4 :: a5 :: a6 :: a7 :: a8 :: a9 :: c :: c2 :: t) (.long x :: st) h r h1 :=
  px_lstore (i := 10) (ls := a0 :: a1 :: a2 :: a3 :: a4 :: a5 :: a6 :: a7 :: a8 :: a9 :: c :: c2 :: t) (fun z hz he => by cases he; exact hb) (by show 10 + 1 < _; simp) hd kk
theorem px_astore10 {a0 a1 a2 a3 a4 a5 a6 a7 a8 a9 : Option Value} {c : Option Value} {t : pm_Ls} {x : Nat} (hb : pm_nl a9 = true) (hd : decode μ.2.1 pc = .ok (.astore 10, 2)) (kk : EX B D d μ (pc + 2) (a0 :: a1 :: a2 :: a3 :: a4 :: a5 :: a6 :: a7 :: a8 :: a9 :: some (.ref x) :: t) st h r h1) : EX B D d μ pc (a0 :: a1 :: a2 :: a3 :: a4 :: a5 :: a6 :: a7 :: a8 :: a9 :: c :: t) (.ref x :: st) h r h1 :=
  px_astore (i := 10) (ls := a0 :: a1 :: a2 :: a3 :: a4 :: a5 :: a6 :: a7 :: a8 :: a9 :: c :: t) (fun z hz he => by cases he; exact hb) (by show 10 < _; simp) hd kk
theorem px_astoreN10 {a0 a1 a2 a3 a4 a5 a6 a7 a8 a9 : Option Value} {c : Option Value} {t : pm_Ls}  (hb : pm_nl a9 = true) (hd : decode μ.2.1 pc = .ok (.astore 10, 2)) (kk : EX B D d μ (pc + 2) (a0 :: a1 :: a2 :: a3 :: a4 :: a5 :: a6 :: a7 :: a8 :: a9 :: some (.null) :: t) st h r h1) : EX B D d μ pc (a0 :: a1 :: a2 :: a3 :: a4 :: a5 :: a6 :: a7 :: a8 :: a9 :: c :: t) (.null :: st) h r h1 :=
  px_astoreN (i := 10) (ls := a0 :: a1 :: a2 :: a3 :: a4 :: a5 :: a6 :: a7 :: a8 :: a9 :: c :: t) (fun z hz he => by cases he; exact hb) (by show 10 < _; simp) hd kk
theorem px_iinc10 {a0 a1 a2 a3 a4 a5 a6 a7 a8 a9 : Option Value} {t : pm_Ls} {n : Int} {x v : Int32} (hb : pm_nl a9 = true) (hc : x + Int32.ofInt n = v) (hd : decode μ.2.1 pc = .ok (.iinc 10 n, 3)) (kk : EX B D d μ (pc + 3) (a0 :: a1 :: a2 :: a3 :: a4 :: a5 :: a6 :: a7 :: a8 :: a9 :: some (.int v) :: t) st h r h1) : EX B D d μ pc (a0 :: a1 :: a2 :: a3 :: a4 :: a5 :: a6 :: a7 :: a8 :: a9 :: some (.int x) :: t) st h r h1 :=
  px_iinc (i := 10) (ls := a0 :: a1 :: a2 :: a3 :: a4 :: a5 :: a6 :: a7 :: a8 :: a9 :: some (.int x) :: t) (fun z hz he => by cases he; exact hb) (by simp) hc hd kk
theorem px_istore11 {a0 a1 a2 a3 a4 a5 a6 a7 a8 a9 a10 : Option Value} {c : Option Value} {t : pm_Ls} {x : Int32} (hb : pm_nl a10 = true) (hd : decode μ.2.1 pc = .ok (.istore 11, 2)) (kk : EX B D d μ (pc + 2) (a0 :: a1 :: a2 :: a3 :: a4 :: a5 :: a6 :: a7 :: a8 :: a9 :: a10 :: some (.int x) :: t) st h r h1) : EX B D d μ pc (a0 :: a1 :: a2 :: a3 :: a4 :: a5 :: a6 :: a7 :: a8 :: a9 :: a10 :: c :: t) (.int x :: st) h r h1 :=
  px_istore (i := 11) (ls := a0 :: a1 :: a2 :: a3 :: a4 :: a5 :: a6 :: a7 :: a8 :: a9 :: a10 :: c :: t) (fun z hz he => by cases he; exact hb) (by show 11 < _; simp) hd kk
theorem px_lstore11 {a0 a1 a2 a3 a4 a5 a6 a7 a8 a9 a10 : Option Value} {c c2 : Option Value} {t : pm_Ls} {x : Int64} (hb : pm_nl a10 = true) (hd : decode μ.2.1 pc = .ok (.lstore 11, 2)) (kk : EX B D d μ (pc + 2) (a0 :: a1 :: a2 :: a3 :: a4 :: a5 :: a6 :: a7 :: a8 :: a9 :: a10 :: some (.long x) :: none :: t) st h r h1) : EX B D d μ pc (a0 :: a1 :: a2 :: a3 :: a4 :: a5 :: a6 :: a7 :: a8 :: a9 :: a10 :: c :: c2 :: t) (.long x :: st) h r h1 :=
  px_lstore (i := 11) (ls := a0 :: a1 :: a2 :: a3 :: a4 :: a5 :: a6 :: a7 :: a8 :: a9 :: a10 :: c :: c2 :: t) (fun z hz he => by cases he; exact hb) (by show 11 + 1 < _; simp) hd kk
theorem px_astore11 {a0 a1 a2 a3 a4 a5 a6 a7 a8 a9 a10 : Option Value} {c : Option Value} {t : pm_Ls} {x : Nat} (hb : pm_nl a10 = true) (hd : decode μ.2.1 pc = .ok (.astore 11, 2)) (kk : EX B D d μ (pc + 2) (a0 :: a1 :: a2 :: a3 :: a4 :: a5 :: a6 :: a7 :: a8 :: a9 :: a10 :: some (.ref x) :: t) st h r h1) : EX B D d μ pc (a0 :: a1 :: a2 :: a3 :: a4 :: a5 :: a6 :: a7 :: a8 :: a9 :: a10 :: c :: t) (.ref x :: st) h r h1 :=
  px_astore (i := 11) (ls := a0 :: a1 :: a2 :: a3 :: a4 :: a5 :: a6 :: a7 :: a8 :: a9 :: a10 :: c :: t) (fun z hz he => by cases he; exact hb) (by show 11 < _; simp) hd kk
theorem px_astoreN11 {a0 a1 a2 a3 a4 a5 a6 a7 a8 a9 a10 : Option Value} {c : Option Value} {t : pm_Ls}  (hb : pm_nl a10 = true) (hd : decode μ.2.1 pc = .ok (.astore 11, 2)) (kk : EX B D d μ (pc + 2) (a0 :: a1 :: a2 :: a3 :: a4 :: a5 :: a6 :: a7 :: a8 :: a9 :: a10 :: some (.null) :: t) st h r h1) : EX B D d μ pc (a0 :: a1 :: a2 :: a3 :: a4 :: a5 :: a6 :: a7 :: a8 :: a9 :: a10 :: c :: t) (.null :: st) h r h1 :=
  px_astoreN (i := 11) (ls := a0 :: a1 :: a2 :: a3 :: a4 :: a5 :: a6 :: a7 :: a8 :: a9 :: a10 :: c :: t) (fun z hz he => by cases he; exact hb) (by show 11 < _; simp) hd kk
theorem px_iinc11 {a0 a1 a2 a3 a4 a5 a6 a7 a8 a9 a10 : Option Value} {t : pm_Ls} {n : Int} {x v : Int32} (hb : pm_nl a10 = true) (hc : x + Int32.ofInt n = v) (hd : decode μ.2.1 pc = .ok (.iinc 11 n, 3)) (kk : EX B D d μ (pc + 3) (a0 :: a1 :: a2 :: a3 :: a4 :: a5 :: a6 :: a7 :: a8 :: a9 :: a10 :: some (.int v) :: t) st h r h1) : EX B D d μ pc (a0 :: a1 :: a2 :: a3 :: a4 :: a5 :: a6 :: a7 :: a8 :: a9 :: a10 :: some (.int x) :: t) st h r h1 :=
  px_iinc (i := 11) (ls := a0 :: a1 :: a2 :: a3 :: a4 :: a5 :: a6 :: a7 :: a8 :: a9 :: a10 :: some (.int x) :: t) (fun z hz he => by cases he; exact hb) (by simp) hc hd kk
theorem px_istore12 {a0 a1 a2 a3 a4 a5 a6 a7 a8 a9 a10 a11 : Option Value} {c : Option Value} {t : pm_Ls} {x : Int32} (hb : pm_nl a11 = true) (hd : decode μ.2.1 pc = .ok (.istore 12, 2)) (kk : EX B D d μ (pc + 2) (a0 :: a1 :: a2 :: a3 :: a4 :: a5 :: a6 :: a7 :: a8 :: a9 :: a10 :: a11 :: some (.int x) :: t) st h r h1) : EX B D d μ pc (a0 :: a1 :: a2 :: a3 :: a4 :: a5 :: a6 :: a7 :: a8 :: a9 :: a10 :: a11 :: c :: t) (.int x :: st) h r h1 :=
  px_istore (i := 12) (ls := a0 :: a1 :: a2 :: a3 :: a4 :: a5 :: a6 :: a7 :: a8 :: a9 :: a10 :: a11 :: c :: t) (fun z hz he => by cases he; exact hb) (by show 12 < _; simp) hd kk
theorem px_lstore12 {a0 a1 a2 a3 a4 a5 a6 a7 a8 a9 a10 a11 : Option Value} {c c2 : Option Value} {t : pm_Ls} {x : Int64} (hb : pm_nl a11 = true) (hd : decode μ.2.1 pc = .ok (.lstore 12, 2)) (kk : EX B D d μ (pc + 2) (a0 :: a1 :: a2 :: a3 :: a4 :: a5 :: a6 :: a7 :: a8 :: a9 :: a10 :: a11 :: some (.long x) :: none :: t) st h r h1) : EX B D d μ pc (a0 :: a1 :: a2 :: a3 :: a4 :: a5 :: a6 :: a7 :: a8 :: a9 :: a10 :: a11 :: c :: c2 :: t) (.long x :: st) h r h1 :=
  px_lstore (i := 12) (ls := a0 :: a1 :: a2 :: a3 :: a4 :: a5 :: a6 :: a7 :: a8 :: a9 :: a10 :: a11 :: c :: c2 :: t) (fun z hz he => by cases he; exact hb) (by show 12 + 1 < _; simp) hd kk
theorem px_astore12 {a0 a1 a2 a3 a4 a5 a6 a7 a8 a9 a10 a11 : Option Value} {c : Option Value} {t : pm_Ls} {x : Nat} (hb : pm_nl a11 = true) (hd : decode μ.2.1 pc = .ok (.astore 12, 2)) (kk : EX B D d μ (pc + 2) (a0 :: a1 :: a2 :: a3 :: a4 :: a5 :: a6 :: a7 :: a8 :: a9 :: a10 :: a11 :: some (.ref x) :: t) st h r h1) : EX B D d μ pc (a0 :: a1 :: a2 :: a3 :: a4 :: a5 :: a6 :: a7 :: a8 :: a9 :: a10 :: a11 :: c :: t) (.ref x :: st) h r h1 :=
  px_astore (i := 12) (ls := a0 :: a1 :: a2 :: a3 :: a4 :: a5 :: a6 :: a7 :: a8 :: a9 :: a10 :: a11 :: c :: t) (fun z hz he => by cases he; exact hb) (by show 12 < _; simp) hd kk
theorem px_astoreN12 {a0 a1 a2 a3 a4 a5 a6 a7 a8 a9 a10 a11 : Option Value} {c : Option Value} {t : pm_Ls}  (hb : pm_nl a11 = true) (hd : decode μ.2.1 pc = .ok (.astore 12, 2)) (kk : EX B D d μ (pc + 2) (a0 :: a1 :: a2 :: a3 :: a4 :: a5 :: a6 :: a7 :: a8 :: a9 :: a10 :: a11 :: some (.null) :: t) st h r h1) : EX B D d μ pc (a0 :: a1 :: a2 :: a3 :: a4 :: a5 :: a6 :: a7 :: a8 :: a9 :: a10 :: a11 :: c :: t) (.null :: st) h r h1 :=
  px_astoreN (i := 12) (ls := a0 :: a1 :: a2 :: a3 :: a4 :: a5 :: a6 :: a7 :: a8 :: a9 :: a10 :: a11 :: c :: t) (fun z hz he => by cases he; exact hb) (by show 12 < _; simp) hd kk
theorem px_iinc12 {a0 a1 a2 a3 a4 a5 a6 a7 a8 a9 a10 a11 : Option Value} {t : pm_Ls} {n : Int} {x v : Int32} (hb : pm_nl a11 = true) (hc : x + Int32.ofInt n = v) (hd : decode μ.2.1 pc = .ok (.iinc 12 n, 3)) (kk : EX B D d μ (pc + 3) (a0 :: a1 :: a2 :: a3 :: a4 :: a5 :: a6 :: a7 :: a8 :: a9 :: a10 :: a11 :: some (.int v) :: t) st h r h1) : EX B D d μ pc (a0 :: a1 :: a2 :: a3 :: a4 :: a5 :: a6 :: a7 :: a8 :: a9 :: a10 :: a11 :: some (.int x) :: t) st h r h1 :=
  px_iinc (i := 12) (ls := a0 :: a1 :: a2 :: a3 :: a4 :: a5 :: a6 :: a7 :: a8 :: a9 :: a10 :: a11 :: some (.int x) :: t) (fun z hz he => by cases he; exact hb) (by simp) hc hd kk
theorem px_istore13 {a0 a1 a2 a3 a4 a5 a6 a7 a8 a9 a10 a11 a12 : Option Value} {c : Option Value} {t : pm_Ls} {x : Int32} (hb : pm_nl a12 = true) (hd : decode μ.2.1 pc = .ok (.istore 13, 2)) (kk : EX B D d μ (pc + 2) (a0 :: a1 :: a2 :: a3 :: a4 :: a5 :: a6 :: a7 :: a8 :: a9 :: a10 :: a11 :: a12 :: some (.int x) :: t) st h r h1) : EX B D d μ pc (a0 :: a1 :: a2 :: a3 :: a4 :: a5 :: a6 :: a7 :: a8 :: a9 :: a10 :: a11 :: a12 :: c :: t) (.int x :: st) h r h1 :=
  px_istore (i := 13) (ls := a0 :: a1 :: a2 :: a3 :: a4 :: a5 :: a6 :: a7 :: a8 :: a9 :: a10 :: a11 :: a12 :: c :: t) (fun z hz he => by cases he; exact hb) (by show 13 < _; simp) hd kk
theorem px_lstore13 {a0 a1 a2 a3 a4 a5 a6 a7 a8 a9 a10 a11 a12 : Option Value} {c c2 : Option Value} {t : pm_Ls} {x : Int64} (hb : pm_nl a12 = true) (hd : decode μ.2.1 pc = .ok (.lstore 13, 2)) (kk : EX B D d μ (pc + 2) (a0 :: a1 :: a2 :: a3 :: a4 :: a5 :: a6 :: a7 :: a8 :: a9 :: a10 :: a11 :: a12 :: some (.long x) :: none :: t) st h r h1) : EX B D d μ pc (a0 :: a1 :: a2 :: a3 :: a4 :: a5 :: a6 :: a7 :: a8 :: a9 :: a10 :: a11 :: a12 :: c :: c2 :: t) (.long x :: st) h r h1 :=
  px_lstore (i := 13) (ls := a0 :: a1 :: a2 :: a3 :: a4 :: a5 :: a6 :: a7 :: a8 :: a9 :: a10 :: a11 :: a12 :: c :: c2 :: t) (fun z hz he => by cases he; exact hb) (by show 13 + 1 < _; simp) hd kk
theorem px_astore13 {a0 a1 a2 a3 a4 a5 a6 a7 a8 a9 a10 a11 a12 : Option Value} {c : Option Value} {t : pm_Ls} {x : Nat} (hb : pm_nl a12 = true) (hd : decode μ.2.1 pc = .ok (.astore 13, 2)) (kk : EX B D d μ (pc + 2) (a0 :: a1 :: a2 :: a3 :: a4 :: a5 :: a6 :: a7 :: a8 :: a9 :: a10 :: a11 :: a12 :: some (.ref x) :: t) st h r h1) : EX B D d μ pc (a0 :: a1 :: a2 :: a3 :: a4 :: a5 :: a6 :: a7 :: a8 :: a9 :: a10 :: a11 :: a12 :: c :: t) (.ref x :: st) h r h1 :=
  px_astore (i := 13) (ls := a0 :: a1 :: a2 :: a3 :: a4 :: a5 :: a6 :: a7 :: a8 :: a9 :: a10 :: a11 :: a12 :: c :: t) (fun z hz he => by cases he; exact hb) (by show 13 < _; simp) hd kk
theorem px_astoreN13 {a0 a1 a2 a3 a4 a5 a6 a7 a8 a9 a10 a11 a12 : Option Value} {c : Option Value} {t : pm_Ls}  (hb : pm_nl a12 = true) (hd : decode μ.2.1 pc = .ok (.astore 13, 2)) (kk : EX B D d μ (pc + 2) (a0 :: a1 :: a2 :: a3 :: a4 :: a5 :: a6 :: a7 :: a8 :: a9 :: a10 :: a11 :: a12 :: some (.null) :: t) st h r h1) : EX B D d μ pc (a0 :: a1 :: a2 :: a3 :: a4 :: a5 :: a6 :: a7 :: a8 :: a9 :: a10 :: a11 :: a12 :: c :: t) (.null :: st) h r h1 :=
  px_astoreN (i := 13) (ls := a0 :: a1 :: a2 :: a3 :: a4 :: a5 :: a6 :: a7 :: a8 :: a9 :: a10 :: a11 :: a12 :: c :: t) (fun z hz he => by cases he; exact hb) (by show 13 < _; simp) hd kk
theorem px_iinc13 {a0 a1 a2 a3 a4 a5 a6 a7 a8 a9 a10 a11 a12 : Option Value} {t : pm_Ls} {n : Int} {x v : Int32} (hb : pm_nl a12 = true) (hc : x + Int32.ofInt n = v) (hd : decode μ.2.1 pc = .ok (.iinc 13 n, 3)) (kk : EX B D d μ (pc + 3) (a0 :: a1 :: a2 :: a3 :: a4 :: a5 :: a6 :: a7 :: a8 :: a9 :: a10 :: a11 :: a12 :: some (.int v) :: t) st h r h1) : EX B D d μ pc (a0 :: a1 :: a2 :: a3 :: a4 :: a5 :: a6 :: a7 :: a8 :: a9 :: a10 :: a11 :: a12 :: some (.int x) :: t) st h r h1 :=
  px_iinc (i := 13) (ls := a0 :: a1 :: a2 :: a3 :: a4 :: a5 :: a6 :: a7 :: a8 :: a9 :: a10 :: a11 :: a12 :: some (.int x) :: t) (fun z hz he => by cases he; exact hb) (by simp) hc hd kk
end PX
end
section
/-! rules for the heap and for calls -/
theorem pm_gw_of {w : Cond} (i : Nat) (h : lw_tbl[i]? = some w) (hg : goodWord w = true) : w ∈ pm_gw := List.mem_filter.mpr ⟨List.mem_of_getElem? h, hg⟩
def pm_okc (q : vw_C) : Prop := (∀ w ∈ u_ws q.1 q.2.1 q.2.2, w ∈ pm_gw) ∧ (∀ a, a < q.2.2 → ∀ b, b < q.2.2 → a ≠ b → (q.2.1 a).2.1 ≠ (q.2.1 b).2.1) ∧ ∃ ty : Nat → FieldType, ∀ k, k < q.2.2 → parseFieldDescriptor (q.2.1 k).2.2.1 = some (ty k)
theorem pm_ok0 : pm_okc (RX0, TX0, 11) := ⟨by decide +kernel, nmX0, tyX0, tyX0_ok⟩
theorem pm_ok1 : pm_okc (RX1, TX1, 5) := ⟨by decide +kernel, nmX1, tyX1, tyX1_ok⟩
theorem pm_ok2 : pm_okc (RX2, TX2, 3) := ⟨by decide +kernel, nmX2, tyX2, tyX2_ok⟩
theorem pm_ok3 : pm_okc (RX3, TX3, 2) := ⟨by decide +kernel, nmX3, tyX3, tyX3_ok⟩
theorem pm_ok4 : pm_okc (RX4, TX4, 7) := ⟨by decide +kernel, nmX4, tyX4, tyX4_ok⟩
theorem pm_ok5 : pm_okc (RX5, TX5, 4) := ⟨by decide +kernel, nmX5, tyX5, tyX5_ok⟩
theorem pm_ok6 : pm_okc (RX6, TX6, 7) := ⟨by decide +kernel, nmX6, tyX6, tyX6_ok⟩
theorem pm_ok7 : pm_okc (RX7, TX7, 29) := ⟨by decide +kernel, nmX7, tyX7, tyX7_ok⟩
theorem pm_cl_ok {ci : Nat} {q : vw_C} (h : pm_cl[ci]? = some q) : pm_okc q := by
  match ci with
  | 0 => cases h; exact pm_ok0
  | 1 => cases h; exact pm_ok1
  | 2 => cases h; exact pm_ok2
  | 3 => cases h; exact pm_ok3
  | 4 => cases h; exact pm_ok4
  | 5 => cases h; exact pm_ok5
  | 6 => cases h; exact pm_ok6
  | 7 => cases h; exact pm_ok7
  | _ + 8 => cases h
/-- place k of an object of class ci, as the class 'own' reads it by its entry i -/
def pm_fl (own : String) (i ci k : Nat) : Prop := ∃ q : vw_C, pm_cl[ci]? = some q ∧ k < q.2.2 ∧ (q.2.1 k).1 = q.1 ∧ Cond.fieldLink own i q.1 (q.2.1 k).2.1 (q.2.1 k).2.2.1 ∈ pm_gw
/-- and writes it: of type ty; fin: it is final -/
def pm_fp (own : String) (i ci k : Nat) (fin : Bool) (ty : FieldType) : Prop := ∃ q : vw_C, pm_cl[ci]? = some q ∧ k < q.2.2 ∧ (q.2.1 k).1 = q.1 ∧ Cond.fieldLink own i q.1 (q.2.1 k).2.1 (q.2.1 k).2.2.1 ∈ pm_gw ∧ (q.2.1 k).2.2.2 = fin ∧ parseFieldDescriptor (q.2.1 k).2.2.1 = some ty
theorem pm_one {D : va_G} {a : Nat} {e : va_E} {H : Heap} (h : va_at D pm_cl (a, e) H) : va_P D pm_cl [(a, e)] H := by
  intro k q hk
  match k with
  | 0 => cases hk; exact h
  | _ + 1 => cases hk
theorem pm_rin {i : Int32} {n : Nat} (h : 0 ≤ i.toInt ∧ i.toInt < n) : vp_in i n := vp_in_iff.mpr h
theorem pm_arr {B : Nat} {D : va_G} {s : State} {a t : Nat} {x : vp_A} {H : Heap} (h : pm_at B D s a (.inl (t, x)) H) (ht : t ≠ 9) : B ≤ a ∧ ∃ cA : ClassId, ArrOfT s cA (pm_ty t) ∧ va_RA s cA (pm_ty t) ∧ H[a]? = some (vp_cell cA x) := by
  unfold pm_at at h
  dsimp only at h
  rw [if_neg ht] at h
  exact h
theorem pm_arr' {B : Nat} {D : va_G} {s : State} {a t : Nat} {x : vp_A} {H : Heap} (ht : t ≠ 9) (h : B ≤ a ∧ ∃ cA : ClassId, ArrOfT s cA (pm_ty t) ∧ va_RA s cA (pm_ty t) ∧ H[a]? = some (vp_cell cA x)) : pm_at B D s a (.inl (t, x)) H := by
  unfold pm_at
  dsimp only
  rw [if_neg ht]
  exact h
theorem pm_scr {B : Nat} {D : va_G} {s : State} {a L : Nat} {xs : Nat → Int32} {H : Heap} (h : pm_at B D s a (.inl (9, L, .inl xs)) H) : va_X a L xs s H := by
  unfold pm_at at h
  dsimp only at h
  rw [if_pos rfl] at h
  obtain ⟨-, L', xs', he, hX⟩ := h
  cases he
  exact hX
theorem pm_K1 {D : va_G} {s : State} {cA : ClassId} {ty : FieldType} (hK : va_K D pm_cl [] s) (h1 : ArrOfT s cA ty) (h2 : va_RA s cA ty) : va_K D pm_cl [(cA, ty)] s := by
  refine ⟨hK.1, fun k q hk => ?_⟩
  match k with
  | 0 => cases hk; exact ⟨h1, h2⟩
  | _ + 1 => cases hk
section PY
variable {B : Nat} {D : va_G} {d : Nat} {μ : pm_M} {pc : Nat} {ls : pm_Ls} {st : List Value} {n w : Nat} {f : Nat → Option va_E} {r : Option Value} {h1 : pm_H}
theorem px_getfield {i ci k a : Nat} {fs : List Value} {v : Value} (hF : pm_fl μ.1.cls i ci k) (hd : decode μ.2.1 pc = .ok (.getfield i, 3)) (ha : f a = some (.inr (ci, fs))) (hv : fs[k]? = some v) (kk : EX B D d μ (pc + 3) ls (v :: st) (n, w, f) r h1) : EX B D d μ pc ls (.ref a :: st) (n, w, f) r h1 := by
  refine ⟨kk.1, fun p l e R s m args below meth c H locs lsA n0 w0 Q cx hl hR hlo e1 e2 e3 e4 hq => ?_⟩
  obtain ⟨q, hqq, hk, hO, hlk⟩ := hF
  have hP := pm_one (hR.2.2 a _ ha).2
  exact va_get cx.1 cx.2.1 cx.2.2.2.2.2.1 (pm_cl_ok hqq).1 cx.2.2.2.2.1 cx.2.2.2.2.2.2.2.2.1.1 hP 0 rfl hqq k hk (cx.2.2.2.2.2.1 _ hlk) (fun x hx => by rw [hO] at hx; exact hx) hv hd (kk.2 p l e R s m args below meth c H locs lsA n0 w0 Q cx hl hR hlo e1 e2 e3 e4 hq)
theorem px_putfield {i ci k a : Nat} {fs : List Value} {v : Value} {ty : FieldType} (hF : pm_fp μ.1.cls i ci k false ty) (hd : decode μ.2.1 pc = .ok (.putfield i, 3)) (ha : f a = some (.inr (ci, fs))) (hn : narrow ty v = v) (hfit : fits ty v = true) (hlen : k < fs.length) (kk : EX B D d μ (pc + 3) ls st (n, w, va_up f a (some (.inr (ci, fs.set k v)))) r h1) : EX B D d μ pc ls (v :: .ref a :: st) (n, w, f) r h1 := by
  refine ⟨kk.1, fun p l e R s m args below meth c H locs lsA n0 w0 Q cx hl hR hlo e1 e2 e3 e4 hq => ?_⟩
  obtain ⟨⟨C, T, N⟩, hc, hk, hO, hlk, hfin, hdty⟩ := hF
  dsimp only at hk hO hlk hfin hdty
  obtain ⟨hin, hnm, ty0, hty⟩ := pm_cl_ok hc
  have hx := cx.1
  have hb := cx.2.1
  have hown := cx.2.2.2.2.1
  have hts := cx.2.2.2.2.2.1
  have hK := cx.2.2.2.2.2.2.2.2.1.1
  obtain ⟨hBa, hat⟩ := hR.2.2 a _ ha
  obtain ⟨q', h1', cell, q1, q2, q3, q4⟩ := hat
  have hr : q' = (C, T, N) := Option.some.inj (h1'.symm.trans hc)
  subst hr
  have hap := va_apart (own := μ.1.cls) hts hin ty0 hty hnm hK hc
  obtain ⟨hS, hfc, kC, hkC, hkind⟩ := hK.1 ci _ hc
  obtain ⟨cf, kf, fi, fd, hi, hsl⟩ := hS k hk
  have hlay := hts _ (hin _ (u_in_lay hk))
  unfold u_lay at hlay
  rw [if_neg (by rw [hfin]; decide)] at hlay
  have hst := (u_facts hfc hkC (u_lays hts hin hk) hi).1
  have h6 := u_store hfc hkC hkind hlay hi hdty hn hfit
  refine W.putK hx hb (f := fd) ⟨hown, hts _ hlk, ⟨_, _, _, by rw [hO] at hi; exact hi⟩, hst⟩ (by rw [q2]; exact h6) q1 q3 (by rw [hsl]; exact k2_hasslot (q4 k hk)) rfl rfl hd fun H' g1 g2 g3 => ?_
  rw [hsl] at g1 ⊢
  refine kk.2 p l e R s m args below meth c H' _ lsA n0 w0 Q cx hl (hR.set ⟨hBa, _, hc, t_OB.to (V := updV (vp_V fs) k v) ⟨_, g1, q2, q3, t_set q4 hap hk v⟩ (fun j _ => vp_updV_set hlen v j)⟩ g2 g3) (fun q hq => ?_) e1 e2 e3 e4 hq
  rcases List.mem_append.mp hq with h | h
  · exact hlo q h
  · rw [List.mem_singleton.mp h]; exact hBa
theorem px_putfieldF {i ci k a : Nat} {fs : List Value} {v : Value} {ty : FieldType} (hF : pm_fp μ.1.cls i ci k true ty) (hin2 : μ.1.name = "<init>") (hcc : (pm_cl[ci]?).map (fun q => q.1) = some μ.1.cls) (hd : decode μ.2.1 pc = .ok (.putfield i, 3)) (ha : f a = some (.inr (ci, fs))) (hn : narrow ty v = v) (hfit : fits ty v = true) (hlen : k < fs.length) (kk : EX B D d μ (pc + 3) ls st (n, w, va_up f a (some (.inr (ci, fs.set k v)))) r h1) : EX B D d μ pc ls (v :: .ref a :: st) (n, w, f) r h1 := by
  refine ⟨kk.1, fun p l e R s m args below meth c H locs lsA n0 w0 Q cx hl hR hlo e1 e2 e3 e4 hq => ?_⟩
  obtain ⟨⟨C, T, N⟩, hc, hk, hO, hlk, hfin, hdty⟩ := hF
  dsimp only at hk hO hlk hfin hdty
  rw [hc] at hcc
  have hCown : C = μ.1.cls := Option.some.inj hcc
  obtain ⟨hin, hnm, ty0, hty⟩ := pm_cl_ok hc
  have hx := cx.1
  have hb := cx.2.1
  have hown := cx.2.2.2.2.1
  have hts := cx.2.2.2.2.2.1
  have hname := cx.2.2.2.2.2.2.2.1
  have hK := cx.2.2.2.2.2.2.2.2.1.1
  obtain ⟨hBa, hat⟩ := hR.2.2 a _ ha
  obtain ⟨q', h1', cell, q1, q2, q3, q4⟩ := hat
  have hr : q' = (C, T, N) := Option.some.inj (h1'.symm.trans hc)
  subst hr
  have hap := va_apart (own := μ.1.cls) hts hin ty0 hty hnm hK hc
  obtain ⟨hS, hfc, kC, hkC, hkind⟩ := hK.1 ci _ hc
  obtain ⟨cf, kf, fi, fd, hi, hsl⟩ := hS k hk
  have hlay := hts _ (hin _ (u_in_lay hk))
  unfold u_lay at hlay
  rw [if_pos hfin] at hlay
  have hst := (u_facts hfc hkC (u_lays hts hin hk) hi).1
  have hcf : m.cls = cf := by
    obtain ⟨_, _, c', _, _, _, -, -, hf', -, -, -, hown2, -⟩ := Cond.laysFinal_spec hlay
    have e1 : c' = cf := by have := hi.symm.trans hf'; simp at this; exact this.1.symm
    rw [hO, hCown] at hown2
    rw [← e1]; exact Option.some.inj (hown.symm.trans hown2)
  have h6 := u_fits hfc hkC hkind (Or.inr hlay) hi hdty hn hfit
  refine W.putFinK hx hb hown (hts _ hlk) (by rw [hO] at hi; exact hi) hst hcf (hname hin2) (by rw [q2]; exact h6) q1 q3 (by rw [hsl]; exact k2_hasslot (q4 k hk)) rfl rfl hd fun H' g1 g2 g3 => ?_
  rw [hsl] at g1 ⊢
  refine kk.2 p l e R s m args below meth c H' _ lsA n0 w0 Q cx hl (hR.set ⟨hBa, _, hc, t_OB.to (V := updV (vp_V fs) k v) ⟨_, g1, q2, q3, t_set q4 hap hk v⟩ (fun j _ => vp_updV_set hlen v j)⟩ g2 g3) (fun q hq => ?_) e1 e2 e3 e4 hq
  rcases List.mem_append.mp hq with h | h
  · exact hlo q h
  · rw [List.mem_singleton.mp h]; exact hBa
theorem px_iaload {a m : Nat} {g : Nat → Int32} {i : Int32} (hd : decode μ.2.1 pc = .ok (.iaload, 1)) (ha : f a = some (.inl (0, m, .inl g))) (hi : 0 ≤ i.toInt ∧ i.toInt < m) (kk : EX B D d μ (pc + 1) ls (.int (g i.toNatClampNeg) :: st) (n, w, f) r h1) : EX B D d μ pc ls (.int i :: .ref a :: st) (n, w, f) r h1 := by
  refine ⟨kk.1, fun p l e R s m args below meth c H locs lsA n0 w0 Q cx hl hR hlo e1 e2 e3 e4 hq => ?_⟩
  obtain ⟨hBa, cA, hA, hRA, hc⟩ := pm_arr (hR.2.2 a _ ha) (by decide)
  exact va_iald cx.1 cx.2.1 (pm_K1 cx.2.2.2.2.2.2.2.2.1.1 hA hRA) (pm_one (e := .inl (cA, _, .inl g)) hc) 0 0 rfl rfl (pm_rin hi) hd (kk.2 p l e R s m args below meth c H locs lsA n0 w0 Q cx hl hR hlo e1 e2 e3 e4 hq)
theorem px_saload {a m : Nat} {g : Nat → Int32} {i : Int32} (hd : decode μ.2.1 pc = .ok (.iaload, 1)) (ha : f a = some (.inl (9, m, .inl g))) (hi : 0 ≤ i.toInt ∧ i.toInt < m) (kk : EX B D d μ (pc + 1) ls (.int (g i.toNatClampNeg) :: st) (n, w, f) r h1) : EX B D d μ pc ls (.int i :: .ref a :: st) (n, w, f) r h1 := by
  refine ⟨kk.1, fun p l e R s m args below meth c H locs lsA n0 w0 Q cx hl hR hlo e1 e2 e3 e4 hq => ?_⟩
  obtain ⟨scr, g1, g2, g3, g4, g5⟩ := pm_scr (hR.2.2 a _ ha)
  have hin := pm_rin hi
  have hlt : i.toNatClampNeg < _ := Nat.not_le.mp fun q => hin (Or.inr q)
  exact W.iald (v := .int (g i.toNatClampNeg)) cx.1 cx.2.1 g1 g2 g3 (by rw [g4]; exact hin) (g5 _ hlt) rfl rfl hd (kk.2 p l e R s m args below meth c H locs lsA n0 w0 Q cx hl hR hlo e1 e2 e3 e4 hq)
theorem px_laload {a m : Nat} {g : Nat → Int64} {i : Int32} (hd : decode μ.2.1 pc = .ok (.laload, 1)) (ha : f a = some (.inl (1, m, .inr (.inl g)))) (hi : 0 ≤ i.toInt ∧ i.toInt < m) (kk : EX B D d μ (pc + 1) ls (.long (g i.toNatClampNeg) :: st) (n, w, f) r h1) : EX B D d μ pc ls (.int i :: .ref a :: st) (n, w, f) r h1 := by
  refine ⟨kk.1, fun p l e R s m args below meth c H locs lsA n0 w0 Q cx hl hR hlo e1 e2 e3 e4 hq => ?_⟩
  obtain ⟨hBa, cA, hA, hRA, hc⟩ := pm_arr (hR.2.2 a _ ha) (by decide)
  exact va_lald cx.1 cx.2.1 (pm_K1 cx.2.2.2.2.2.2.2.2.1.1 hA hRA) (pm_one (e := .inl (cA, _, .inr (.inl g))) hc) 0 0 rfl rfl (pm_rin hi) hd (kk.2 p l e R s m args below meth c H locs lsA n0 w0 Q cx hl hR hlo e1 e2 e3 e4 hq)
theorem px_baload {a m : Nat} {g : Nat → Int32} {i : Int32} (hd : decode μ.2.1 pc = .ok (.baload, 1)) (ha : f a = some (.inl (2, m, .inl g))) (hi : 0 ≤ i.toInt ∧ i.toInt < m) (kk : EX B D d μ (pc + 1) ls (.int (g i.toNatClampNeg) :: st) (n, w, f) r h1) : EX B D d μ pc ls (.int i :: .ref a :: st) (n, w, f) r h1 := by
  refine ⟨kk.1, fun p l e R s m args below meth c H locs lsA n0 w0 Q cx hl hR hlo e1 e2 e3 e4 hq => ?_⟩
  obtain ⟨hBa, cA, hA, hRA, hc⟩ := pm_arr (hR.2.2 a _ ha) (by decide)
  have hin := pm_rin hi
  have hlt : i.toNatClampNeg < _ := Nat.not_le.mp fun q => hin (Or.inr q)
  exact W.zald (v := .int (g i.toNatClampNeg)) cx.1 cx.2.1 hc (hA _ (fun j => .int (g j))) (fun q => by cases q) (by show ¬ (i < 0 ∨ (arrV _ _ _).slots.size ≤ _); rw [arrV_size]; exact hin) (by show (arrV _ _ _).slots[_]? = _; rw [arrV_read _ _ hlt]) rfl rfl hd (kk.2 p l e R s m args below meth c H locs lsA n0 w0 Q cx hl hR hlo e1 e2 e3 e4 hq)
theorem px_aaload {a t m : Nat} {C : String} {g : Nat → Option Nat} {i : Int32} (hC : pm_ty t = .object C) (hd : decode μ.2.1 pc = .ok (.aaload, 1)) (ha : f a = some (.inl (t, m, .inr (.inr (.inr (.inr g)))))) (ht : t ≠ 9) (hi : 0 ≤ i.toInt ∧ i.toInt < m) (kk : EX B D d μ (pc + 1) ls (va_rf (g i.toNatClampNeg) :: st) (n, w, f) r h1) : EX B D d μ pc ls (.int i :: .ref a :: st) (n, w, f) r h1 := by
  refine ⟨kk.1, fun p l e R s m args below meth c H locs lsA n0 w0 Q cx hl hR hlo e1 e2 e3 e4 hq => ?_⟩
  obtain ⟨hBa, cA, hA, hRA, hc⟩ := pm_arr (hR.2.2 a _ ha) ht
  rw [hC] at hA hRA
  exact va_aldq cx.1 cx.2.1 (pm_K1 cx.2.2.2.2.2.2.2.2.1.1 hA hRA) (pm_one (e := .inl (cA, _, .inr (.inr (.inr (.inr g))))) hc) 0 0 rfl rfl (pm_rin hi) hd (kk.2 p l e R s m args below meth c H locs lsA n0 w0 Q cx hl hR hlo e1 e2 e3 e4 hq)
theorem px_alen {a t : Nat} {x : vp_A} {v : Int32} (hv : Int32.ofNat x.1 = v) (hd : decode μ.2.1 pc = .ok (.arraylength, 1)) (ha : f a = some (.inl (t, x))) (ht : t ≠ 9) (kk : EX B D d μ (pc + 1) ls (.int v :: st) (n, w, f) r h1) : EX B D d μ pc ls (.ref a :: st) (n, w, f) r h1 := by
  refine ⟨kk.1, fun p l e R s m args below meth c H locs lsA n0 w0 Q cx hl hR hlo e1 e2 e3 e4 hq => ?_⟩
  obtain ⟨hBa, cA, hA, hRA, hc⟩ := pm_arr (hR.2.2 a _ ha) ht
  exact va_alen cx.1 cx.2.1 (pm_K1 cx.2.2.2.2.2.2.2.2.1.1 hA hRA) (pm_one (e := .inl (cA, x)) hc) 0 0 rfl rfl hv hd (kk.2 p l e R s m args below meth c H locs lsA n0 w0 Q cx hl hR hlo e1 e2 e3 e4 hq)
theorem px_slen {a m : Nat} {g : Nat → Int32} (hd : decode μ.2.1 pc = .ok (.arraylength, 1)) (ha : f a = some (.inl (9, m, .inl g))) (kk : EX B D d μ (pc + 1) ls (.int (Int32.ofNat m) :: st) (n, w, f) r h1) : EX B D d μ pc ls (.ref a :: st) (n, w, f) r h1 := by
  refine ⟨kk.1, fun p l e R s m args below meth c H locs lsA n0 w0 Q cx hl hR hlo e1 e2 e3 e4 hq => ?_⟩
  obtain ⟨scr, g1, g2, g3, g4, g5⟩ := pm_scr (hR.2.2 a _ ha)
  exact W.alen (n := Int32.ofNat _) cx.1 cx.2.1 g1 g2 (by rw [g4] <;> rfl) rfl rfl hd (kk.2 p l e R s m args below meth c H locs lsA n0 w0 Q cx hl hR hlo e1 e2 e3 e4 hq)
theorem pm_lo {B a : Nat} {locs : List Loc} {k : Nat} (hlo : ∀ q ∈ locs, B ≤ q.base) (h : B ≤ a) : ∀ q ∈ locs ++ [(⟨a, k⟩ : Loc)], B ≤ q.base := by
  intro q hq
  rcases List.mem_append.mp hq with g | g
  · exact hlo q g
  · rw [List.mem_singleton.mp g]; exact h
theorem px_iastore {a m : Nat} {g : Nat → Int32} {i x : Int32} (hd : decode μ.2.1 pc = .ok (.iastore, 1)) (ha : f a = some (.inl (0, m, .inl g))) (hi : 0 ≤ i.toInt ∧ i.toInt < m) (kk : EX B D d μ (pc + 1) ls st (n, w, va_up f a (some (.inl (0, m, .inl (va_up g i.toNatClampNeg x))))) r h1) : EX B D d μ pc ls (.int x :: .int i :: .ref a :: st) (n, w, f) r h1 := by
  refine ⟨kk.1, fun p l e R s m' args below meth c H locs lsA n0 w0 Q cx hl hR hlo e1 e2 e3 e4 hq => ?_⟩
  obtain ⟨hBa, cA, hA, hRA, hc⟩ := pm_arr (hR.2.2 a _ ha) (by decide)
  have hin := pm_rin hi
  refine W.iast cx.1 cx.2.1 hc (hA m (fun j => .int (g j))) (fun q => by cases q) (by show ¬ (i < 0 ∨ (arrV _ _ _).slots.size ≤ _); rw [arrV_size]; exact hin) rfl rfl hd fun H1 g1 z oq => ?_
  refine kk.2 p l e R s m' args below meth c H1 _ lsA n0 w0 Q cx hl (hR.set (pm_arr' (by decide) ⟨hBa, cA, hA, hRA, ?_⟩) z oq) (pm_lo hlo hBa) e1 e2 e3 e4 hq
  rw [g1, vp_cell_i, vp_cell_i, arrV_store]
  congr 2
  funext q
  by_cases hq : q = i.toNatClampNeg
  · subst hq
    simp [updV, va_up]
  · simp [updV, va_up, hq]
theorem px_lastore {a m : Nat} {g : Nat → Int64} {i : Int32} {x : Int64} (hd : decode μ.2.1 pc = .ok (.lastore, 1)) (ha : f a = some (.inl (1, m, .inr (.inl g)))) (hi : 0 ≤ i.toInt ∧ i.toInt < m) (kk : EX B D d μ (pc + 1) ls st (n, w, va_up f a (some (.inl (1, m, .inr (.inl (va_up g i.toNatClampNeg x)))))) r h1) : EX B D d μ pc ls (.long x :: .int i :: .ref a :: st) (n, w, f) r h1 := by
  refine ⟨kk.1, fun p l e R s m' args below meth c H locs lsA n0 w0 Q cx hl hR hlo e1 e2 e3 e4 hq => ?_⟩
  obtain ⟨hBa, cA, hA, hRA, hc⟩ := pm_arr (hR.2.2 a _ ha) (by decide)
  have hin := pm_rin hi
  refine W.last cx.1 cx.2.1 hc (hA m (fun j => .long (g j))) (fun q => by cases q) (by show ¬ (i < 0 ∨ (arrV _ _ _).slots.size ≤ _); rw [arrV_size]; exact hin) rfl rfl hd fun H1 g1 z oq => ?_
  refine kk.2 p l e R s m' args below meth c H1 _ lsA n0 w0 Q cx hl (hR.set (pm_arr' (by decide) ⟨hBa, cA, hA, hRA, ?_⟩) z oq) (pm_lo hlo hBa) e1 e2 e3 e4 hq
  rw [g1, vp_cell_l, vp_cell_l, arrV_store]
  congr 2
  funext q
  by_cases hq : q = i.toNatClampNeg
  · subst hq
    simp [updV, va_up]
  · simp [updV, va_up, hq]
theorem px_bastore {a m : Nat} {g : Nat → Int32} {i x : Int32} (hd : decode μ.2.1 pc = .ok (.bastore, 1)) (ha : f a = some (.inl (2, m, .inl g))) (hi : 0 ≤ i.toInt ∧ i.toInt < m) (hxx : x = 0 ∨ x = 1) (kk : EX B D d μ (pc + 1) ls st (n, w, va_up f a (some (.inl (2, m, .inl (va_up g i.toNatClampNeg x))))) r h1) : EX B D d μ pc ls (.int x :: .int i :: .ref a :: st) (n, w, f) r h1 := by
  refine ⟨kk.1, fun p l e R s m' args below meth c H locs lsA n0 w0 Q cx hl hR hlo e1 e2 e3 e4 hq => ?_⟩
  obtain ⟨hBa, cA, hA, hRA, hc⟩ := pm_arr (hR.2.2 a _ ha) (by decide)
  have hin := pm_rin hi
  refine W.zast cx.1 cx.2.1 hc (hA m (fun j => .int (g j))) (fun q => by cases q) (by show ¬ (i < 0 ∨ (arrV _ _ _).slots.size ≤ _); rw [arrV_size]; exact hin) rfl rfl hd fun H1 g1 z oq => ?_
  refine kk.2 p l e R s m' args below meth c H1 _ lsA n0 w0 Q cx hl (hR.set (pm_arr' (by decide) ⟨hBa, cA, hA, hRA, ?_⟩) z oq) (pm_lo hlo hBa) e1 e2 e3 e4 hq
  rw [g1, pm_bool_nar hxx, vp_cell_i, vp_cell_i, arrV_store]
  congr 2
  funext q
  by_cases hq : q = i.toNatClampNeg
  · subst hq
    simp [updV, va_up]
  · simp [updV, va_up, hq]
theorem px_aastore {a t m v ci : Nat} {q : vw_C} {vs : List Value} {g : Nat → Option Nat} {i : Int32} (hq0 : pm_cl[ci]? = some q) (hC : pm_ty t = .object q.1) (hd : decode μ.2.1 pc = .ok (.aastore, 1)) (ha : f a = some (.inl (t, m, .inr (.inr (.inr (.inr g)))))) (ht : t ≠ 9) (hi : 0 ≤ i.toInt ∧ i.toInt < m) (hv : f v = some (.inr (ci, vs))) (kk : EX B D d μ (pc + 1) ls st (n, w, va_up f a (some (.inl (t, m, .inr (.inr (.inr (.inr (va_up g i.toNatClampNeg (some v))))))))) r h1) : EX B D d μ pc ls (.ref v :: .int i :: .ref a :: st) (n, w, f) r h1 := by
  refine ⟨kk.1, fun p l e R s m' args below meth c H locs lsA n0 w0 Q cx hl hR hlo e1 e2 e3 e4 hq => ?_⟩
  obtain ⟨hBa, cA, hA, hRA, hc⟩ := pm_arr (hR.2.2 a _ ha) ht
  have hRA' := hRA
  rw [hC] at hRA'
  have hin := pm_rin hi
  have hlt : i.toNatClampNeg < m := Nat.not_le.mp fun q => hin (Or.inr q)
  have h0 : ¬ i < 0 := fun q => hin (Or.inl q)
  obtain ⟨-, r', hr', cellV, g1, g2, g3, -⟩ := hR.2.2 v _ hv
  have hcls := (cx.2.2.2.2.2.2.2.2.1.1.1 ci q hq0).2
  obtain ⟨kA, comp, k1, k2, k3, -⟩ := hRA'
  have hcomp : comp = D.1 ci := Option.some.inj (k3.symm.trans hcls.1)
  subst hcomp
  obtain ⟨kC, hkC, -⟩ := hcls.2
  refine W.aast cx.1 cx.2.1 hc (fun q h => by cases h) (fun h => by cases h) k1 k2 rfl hkC ⟨h0, by show _ < (arrV _ _ _).slots.size; rw [arrV_size]; exact hlt⟩ g1 (fun q h => by rw [g3] at h; cases h) (by rw [g2]; exact hkC) (by rw [g2]; exact va_assign hcls) rfl rfl hd fun H1 g4 z oq => ?_
  refine kk.2 p l e R s m' args below meth c H1 _ lsA n0 w0 Q cx hl (hR.set (pm_arr' ht ⟨hBa, cA, hA, hRA, ?_⟩) z oq) (pm_lo hlo hBa) e1 e2 e3 e4 hq
  rw [g4, vp_cell_q, vp_cell_q, arrV_store]
  congr 2
  funext q
  by_cases hq : q = i.toNatClampNeg
  · subst hq
    simp [updV, va_up, va_rf]
  · simp [updV, va_up, hq]
theorem px_aastoreN {a t m : Nat} {C : String} {g : Nat → Option Nat} {i : Int32} (hC : pm_ty t = .object C) (hd : decode μ.2.1 pc = .ok (.aastore, 1)) (ha : f a = some (.inl (t, m, .inr (.inr (.inr (.inr g)))))) (ht : t ≠ 9) (hi : 0 ≤ i.toInt ∧ i.toInt < m) (kk : EX B D d μ (pc + 1) ls st (n, w, va_up f a (some (.inl (t, m, .inr (.inr (.inr (.inr (va_up g i.toNatClampNeg none)))))))) r h1) : EX B D d μ pc ls (.null :: .int i :: .ref a :: st) (n, w, f) r h1 := by
  refine ⟨kk.1, fun p l e R s m' args below meth c H locs lsA n0 w0 Q cx hl hR hlo e1 e2 e3 e4 hq => ?_⟩
  obtain ⟨hBa, cA, hA, hRA, hc⟩ := pm_arr (hR.2.2 a _ ha) ht
  have hA' := hA
  rw [hC] at hA'
  have hin := pm_rin hi
  refine va_WaastN (C := C) cx.1 cx.2.1 hc (hA' m (fun j => va_rf (g j))) (fun h => by cases h) (by show ¬ (i < 0 ∨ (arrV _ _ _).slots.size ≤ _); rw [arrV_size]; exact hin) rfl rfl hd fun H1 g4 z oq => ?_
  refine kk.2 p l e R s m' args below meth c H1 _ lsA n0 w0 Q cx hl (hR.set (pm_arr' ht ⟨hBa, cA, hA, hRA, ?_⟩) z oq) (pm_lo hlo hBa) e1 e2 e3 e4 hq
  rw [g4, vp_cell_q, vp_cell_q, arrV_store]
  congr 2
  funext q
  by_cases hq : q = i.toNatClampNeg
  · subst hq
    simp [updV, va_up, va_rf]
  · simp [updV, va_up, hq]
end PY
end
section
/-! what is made; calls -/
theorem pm_gw_good : ∀ w ∈ pm_gw, (w.onTables && w.keeps) = true ∨ ∃ ty, w = .arrayClass ty := fun _ h => good_of_word (List.mem_filter.mp h).2
/-- a method's own words -/
def pm_mok (ν : pm_M) (k : Nat) : Prop := Cond.code ν.1 ν.2.1 ν.2.2.1 ν.2.2.2 ∈ pm_gw ∧ Cond.initialized ν.1.cls ∈ pm_gw ∧ (ν.1.cls ≠ "java/lang/invoke/MethodHandle" ∧ ν.1.cls ≠ "java/lang/invoke/VarHandle") ∧ (parseMethodDescriptor ν.1.desc).map (fun d => d.parameters.length) = some k ∧ ν.2.2.1 ≤ 20
def pm_lkN (own : String) (i : Nat) (y : MethodName) : Prop := ∃ host : String, Cond.methodLinkNest own i y host ∈ lw_tbl
theorem pm_defq (N : Nat) : (fun j => Value.int ((fun _ : Nat => (0 : Int32)) j)) = (fun _ : Nat => defaultValue .int) := rfl
section PZ
variable {B : Nat} {D : va_G} {d : Nat} {μ : pm_M} {pc : Nat} {ls : pm_Ls} {st : List Value} {n w : Nat} {f : Nat → Option va_E} {r : Option Value} {h1 : pm_H}
theorem px_new {i ci N : Nat} {C : String} {T : u_T} {fs : List Value} (hc : pm_cl[ci]? = some (C, T, N)) (hl : Cond.classLink μ.1.cls i C ∈ pm_gw) (hi : Cond.instantiable C N ∈ pm_gw) (hini : Cond.initialized C ∈ pm_gw) (ty : Nat → FieldType) (hty : ∀ k, k < N → parseFieldDescriptor (T k).2.2.1 = some (ty k)) (hfs : ∀ j, j < N → defaultValue (ty j) = vp_V fs j) (hd : decode μ.2.1 pc = .ok (.new i, 3))
    (kk : EX B D d μ (pc + 3) ls (.ref n :: st) (n + 1, w + N, va_up f n (some (.inr (ci, fs)))) r h1) : EX B D d μ pc ls st (n, w, f) r h1 := by
  have k1 : n + 1 ≤ h1.1 := kk.1.1
  have k2 : w + N ≤ h1.2.1 := kk.1.2
  refine ⟨⟨by show n ≤ h1.1; omega, by show w ≤ h1.2.1; omega⟩, fun p l e R s m args below meth c H locs lsA n0 w0 Q cx hl' hR hlo e1 e2 e3 e4 hq => ?_⟩
  have hKn := cx.2.2.2.2.2.2.2.2.1.1.1 ci _ hc
  have hts := cx.2.2.2.2.2.1
  dsimp only at e1 e2 ⊢
  refine W.newcK cx.1 cx.2.1 cx.2.2.2.2.1 (hts _ hl) (hts _ hi) (hts _ hini) rfl hd (by omega) (by omega) hKn.2.1 hR.1 fun H1 kC hkC g1 z1 o1 => ?_
  refine W.cs (cells' := (n + 1) - n0) (slots' := (w + N) - w0) (by omega) (by omega) ?_
  refine kk.2 p l e R s m args below meth c H1 locs lsA n0 w0 Q cx hl' (hR.push ⟨hR.2.1, _, hc, (u_born ty hts (pm_cl_ok hc).1 hKn hkC g1 hty).to hfs⟩ z1 o1) hlo (by show n0 ≤ n + 1; omega) (by show w0 ≤ w + N; omega) e3 e4 hq
theorem px_newarr {at_ : ArrayType} {t k : Nat} {g : vp_A} {x : Int32} (ht : newarray.typeOf at_ = pm_ty t) (ht9 : t ≠ 9) (hA : Cond.arrayClass (newarray.typeOf at_) ∈ pm_gw) (hg : ∀ cA : ClassId, vp_cell cA g = arrV cA k (fun _ => defaultValue (newarray.typeOf at_))) (hRA : ∀ (s : State) (cA : ClassId), s.vm.findClass ("[" ++ (newarray.typeOf at_).toString) = some cA → va_RA s cA (newarray.typeOf at_)) (hx0 : ¬ x < 0) (hxk : x.toNatClampNeg = k) (hby : k * componentBytes (newarray.typeOf at_) ≤ 536870912) (hd : decode μ.2.1 pc = .ok (.newarray at_, 2))
    (kk : EX B D d μ (pc + 2) ls (.ref n :: st) (n + 1, w + k, va_up f n (some (.inl (t, g)))) r h1) : EX B D d μ pc ls (.int x :: st) (n, w, f) r h1 := by
  have k1 : n + 1 ≤ h1.1 := kk.1.1
  have k2 : w + k ≤ h1.2.1 := kk.1.2
  refine ⟨⟨by show n ≤ h1.1; omega, by show w ≤ h1.2.1; omega⟩, fun p l e R s m args below meth c H locs lsA n0 w0 Q cx hl' hR hlo e1 e2 e3 e4 hq => ?_⟩
  have hts := cx.2.2.2.2.2.1
  dsimp only at e1 e2 ⊢
  refine va_newaK cx.1 cx.2.1 (hts _ hA) rfl hd rfl hx0 hxk hby (by omega) (by omega) hR.1 fun H1 cA g1 z1 o1 hAr hNm => ?_
  refine W.cs (cells' := (n + 1) - n0) (slots' := (w + k) - w0) (by omega) (by omega) ?_
  refine kk.2 p l e R s m args below meth c H1 locs lsA n0 w0 Q cx hl' (hR.push (pm_arr' ht9 ⟨hR.2.1, cA, by rw [← ht]; exact hAr, by rw [← ht]; exact hRA s cA hNm, by rw [hg]; exact g1⟩) z1 o1) hlo (by show n0 ≤ n + 1; omega) (by show w0 ≤ w + k; omega) e3 e4 hq
theorem px_newint {k : Nat} {x : Int32} (hA : Cond.arrayClass .int ∈ pm_gw) (hx0 : ¬ x < 0) (hxk : x.toNatClampNeg = k) (hby : k * 4 ≤ 536870912) (hd : decode μ.2.1 pc = .ok (.newarray .int, 2))
    (kk : EX B D d μ (pc + 2) ls (.ref n :: st) (n + 1, w + k, va_up f n (some (.inl (0, k, .inl (fun _ => 0))))) r h1) : EX B D d μ pc ls (.int x :: st) (n, w, f) r h1 :=
  px_newarr (at_ := .int) (t := 0) rfl (by decide) hA (fun _ => rfl) (fun _ _ h => h) hx0 hxk hby hd kk
theorem px_newbool {k : Nat} {x : Int32} (hA : Cond.arrayClass .boolean ∈ pm_gw) (hx0 : ¬ x < 0) (hxk : x.toNatClampNeg = k) (hby : k * 1 ≤ 536870912) (hd : decode μ.2.1 pc = .ok (.newarray .boolean, 2))
    (kk : EX B D d μ (pc + 2) ls (.ref n :: st) (n + 1, w + k, va_up f n (some (.inl (2, k, .inl (fun _ => 0))))) r h1) : EX B D d μ pc ls (.int x :: st) (n, w, f) r h1 :=
  px_newarr (at_ := .boolean) (t := 2) rfl (by decide) hA (fun _ => rfl) (fun _ _ h => h) hx0 hxk hby hd kk
theorem px_newlong {k : Nat} {x : Int32} (hA : Cond.arrayClass .long ∈ pm_gw) (hx0 : ¬ x < 0) (hxk : x.toNatClampNeg = k) (hby : k * 8 ≤ 536870912) (hd : decode μ.2.1 pc = .ok (.newarray .long, 2))
    (kk : EX B D d μ (pc + 2) ls (.ref n :: st) (n + 1, w + k, va_up f n (some (.inl (1, k, .inr (.inl (fun _ => 0)))))) r h1) : EX B D d μ pc ls (.int x :: st) (n, w, f) r h1 :=
  px_newarr (at_ := .long) (t := 1) rfl (by decide) hA (fun _ => rfl) (fun _ _ h => h) hx0 hxk hby hd kk
theorem px_anew {i t k : Nat} {C : String} {x : Int32} (hC : pm_ty t = .object C) (ht9 : t ≠ 9) (hl : Cond.classLink μ.1.cls i C ∈ pm_gw) (hov : Cond.arrayOver (.object C) ∈ lw_tbl) (hx0 : ¬ x < 0) (hxk : x.toNatClampNeg = k) (hby : k * 4 ≤ 536870912) (hd : decode μ.2.1 pc = .ok (.anewarray i, 3))
    (kk : EX B D d μ (pc + 3) ls (.ref n :: st) (n + 1, w + k, va_up f n (some (.inl (t, k, .inr (.inr (.inr (.inr (fun _ => none)))))))) r h1) : EX B D d μ pc ls (.int x :: st) (n, w, f) r h1 := by
  have k1 : n + 1 ≤ h1.1 := kk.1.1
  have k2 : w + k ≤ h1.2.1 := kk.1.2
  refine ⟨⟨by show n ≤ h1.1; omega, by show w ≤ h1.2.1; omega⟩, fun p l e R s m args below meth c H locs lsA n0 w0 Q cx hl' hR hlo e1 e2 e3 e4 hq => ?_⟩
  have hts := cx.2.2.2.2.2.1
  have hover := cx.2.2.2.2.2.2.2.2.1.2.2 C hov
  dsimp only at e1 e2 ⊢
  subst hxk
  refine W.anew cx.1 cx.2.1 cx.2.2.2.2.1 (hts _ hl) (va_AO.use hover) rfl hd rfl hx0 hby (by omega) (by omega) fun cA kA comp f1 f2 f3 f4 => ?_
  have hsz := hR.1
  dsimp only at hsz
  generalize hH1 : H.push ({ cls := cA, slots := Array.replicate x.toNatClampNeg .null, vm := .none } : Cell) = H1
  have z1 : H1.size = n + 1 := by rw [← hH1, Array.size_push, hsz]
  have g1 : H1[n]? = some (arrV cA x.toNatClampNeg (fun _ => .null)) := by rw [← hH1, ← hsz, Array.getElem?_push_size, ← arrV_new]
  have o1 : ∀ q : Nat, q < n → H1[q]? = H[q]? := fun q hq => by rw [← hH1, Array.getElem?_push, if_neg (by omega)]
  have hAr : ArrOfT s cA (.object C) := fun N z => ⟨(fun k h => by cases h), kA, f2, comp, f3⟩
  rw [hsz]
  refine W.cs (cells' := (n + 1) - n0) (slots' := (w + x.toNatClampNeg) - w0) (by omega) (by omega) ?_
  refine kk.2 p l e R s m args below meth c H1 locs lsA n0 w0 Q cx hl' (hR.push (pm_arr' ht9 ⟨hR.2.1, cA, by rw [hC]; exact hAr, by rw [hC]; exact ⟨kA, comp, f2, f3, f4, f1⟩, by rw [vp_cell_q]; exact g1⟩) z1 o1) hlo (by show n0 ≤ n + 1; omega) (by show w0 ≤ w + _; omega) e3 e4 hq
theorem pm_rest4 {st : List Value} (h : st.length ≤ 4) : (st.map fun v => v.category).sum ≤ 8 := by
  have key : ∀ (l : List Value), (l.map fun v => v.category).sum ≤ 2 * l.length := by
    intro l
    induction l with
    | nil => exact Nat.le_refl _
    | cons a t ih =>
      have : a.category ≤ 2 := by cases a <;> simp [Value.category]
      simp only [List.map_cons, List.sum_cons, List.length_cons]
      omega
  have := key st
  omega
theorem px_objinit {i a : Nat} (hl : Cond.methodLink μ.1.cls i objectInit ∈ pm_gw) (hin : Cond.instanceMethod objectInit ∈ pm_gw) (hco : Cond.code objectInit ⟨#[0xb1]⟩ 1 none ∈ pm_gw) (hd0 : 1 ≤ d) (hst : st.length ≤ 4) (hd : decode μ.2.1 pc = .ok (.invokespecial i, 3)) (kk : EX B D d μ (pc + 3) ls st (n, w, f) r h1) : EX B D d μ pc ls (.ref a :: st) (n, w, f) r h1 := by
  refine ⟨kk.1, fun p l e R s m args below meth c H locs lsA n0 w0 Q cx hl' hR hlo e1 e2 e3 e4 hq => ?_⟩
  have hts := cx.2.2.2.2.2.1
  have h8 := pm_rest4 hst
  have hR1 := cx.2.2.2.2.2.2.2.2.2.1
  have hR2 := cx.2.2.2.2.2.2.2.2.2.2
  exact W.objInit cx.1 cx.2.1 cx.2.2.2.2.1 (hts _ hl) (hts _ hin) (hts _ hco) rfl (by rw [cx.2.2.2.1]; exact hl'.1) rfl hd (by omega) (by show 2 * 0 + _ + 12 ≤ _; omega) (W.eq (g2 := F0 m (pc + 3) lsA st) rfl (kk.2 p l e R s m args below meth c H locs lsA n0 w0 Q cx hl' hR hlo e1 e2 e3 e4 hq))
/-- behind a call -/
theorem pm_after {p : Program} {l : Launch} {e : Env} {R : Room} {s : State} {m : MethodId} {args : Array Value} {below : List Frame} {meth : Method} {c : Code} {H : Heap} {locs : List Loc} {lsA : Array Slot} {n0 w0 : Nat} {Q : State → Prop} {h h2 : pm_H} {v : Option Value} {st0 : List Value} (hr : va_Run p l e R s m args below meth c H locs (h.1 - n0) (h.2.1 - w0) (h2.1 - h.1) (h2.2.1 - h.2.1) (F0 m pc lsA st0) st (fun _ o t => o = .returned v ∧ pm_R B D t t.heap h2) (fun q => B ≤ q)) (hm : h.1 ≤ h2.1 ∧ h.2.1 ≤ h2.2.1) (hlo : ∀ q ∈ locs, B ≤ q.base) (e1 : n0 ≤ h.1) (e2 : w0 ≤ h.2.1)
    (kk : EX B D d μ (pc + 3) ls (v.toList ++ st) h2 r h1) (cx : pm_cx D d μ p R s m args meth c) (hl : pm_L lsA μ.2.2.1 ls) (e3 : h1.1 - n0 ≤ R.cells) (e4 : h1.2.1 - w0 ≤ R.slots) (hq : pm_end B D μ r h1 p l e R s m args below meth c n0 w0 Q) : W p l e R s m args below meth c H locs (h.1 - n0) (h.2.1 - w0) Q (F0 m pc lsA st0) := by
  intro T hT X
  obtain ⟨v', st₀, t, T', L, g0, X', hL, f1, f2, ⟨hv, hR1⟩, stp⟩ := hr T hT X
  cases hv
  rw [show h.1 - n0 + (h2.1 - h.1) = h2.1 - n0 by omega, show h.2.1 - w0 + (h2.2.1 - h.2.1) = h2.2.1 - w0 by omega] at X'
  obtain ⟨t2, a1, b1⟩ := kk.2 p l e R s m args below meth c T'.heap (locs ++ L) lsA n0 w0 Q cx hl (by
      rw [f1]
      exact hR1.moved (by rw [← f2]; exact X'.warmed.alike.symm)) (fun q hq => by
      rcases List.mem_append.mp hq with h | h
      · exact hlo q h
      · exact hL q h) (by omega) (by omega) e3 e4 hq T' rfl X'
  exact ⟨t2, stp t2 a1, b1⟩
theorem pm_pay {s : State} {args : Array Value} {ν : pm_M} {k : Nat} (hts : ∀ w ∈ pm_gw, w.before args s = true) (hν : pm_mok ν k) : ∀ w ∈ pm_ws ν, ∀ (a' : Array Value) (U : State), s.WarmedH U.vm → w.before a' U = true := by
  intro w hw a' U hW
  have h1 : w ∈ pm_gw := by
    rcases List.mem_cons.mp hw with h | h
    · rw [h]; exact hν.1
    · exact h
  exact word_at hW (pm_gw_good w h1) (hts w h1)
theorem pm_blind {as : List Value} {h : pm_H} : FrameBlind (fun a U => a = as.toArray ∧ pm_K D U ∧ pm_R B D U U.heap h) := by
  intro a U g mk q
  exact ⟨q.1, q.2.1.same rfl, q.2.2.moved (u := U) (U := U.calling g mk a) (Vm.Alike.refl U.vm)⟩
theorem px_callV {ν : pm_M} {i ci b k d1 : Nat} {q : vw_C} {As sk : List Value} {v : Option Value} {fs : List Value} {h2 : pm_H} (hq0 : pm_cl[ci]? = some q) (hqc : q.1 = ν.1.cls) (hl : Cond.methodLink μ.1.cls i ν.1 ∈ pm_gw) (hin : Cond.instanceMethod ν.1 ∈ pm_gw) (hse : Cond.selects ν.1.cls ν.1 ν.1 ∈ pm_gw) (hν : pm_mok ν k) (hd : decode μ.2.1 pc = .ok (.invokevirtual i, 3)) (hC : CT B D d1 ν (.ref b :: As) (n, w, f) v h2) (hb : f b = some (.inr (ci, fs))) (hk : As.length = k) (hsk : sk = As.reverse ++ .ref b :: st) (hdd : d1 + 1 ≤ d) (hst : st.length ≤ 4)
    (kk : EX B D d μ (pc + 3) ls (v.toList ++ st) h2 r h1) : EX B D d μ pc ls sk (n, w, f) r h1 := by
  refine ⟨⟨Nat.le_trans hC.1.1 kk.1.1, Nat.le_trans hC.1.2 kk.1.2⟩, fun p l e R s m args below meth c H locs lsA n0 w0 Q cx hl' hR hlo e1 e2 e3 e4 hq => ?_⟩
  have hts := cx.2.2.2.2.2.1
  have hm := hC.1
  have hm2 := kk.1
  have hR1 := cx.2.2.2.2.2.2.2.2.2.1
  have hR2 := cx.2.2.2.2.2.2.2.2.2.2
  have hν5 := hν.2.2.2.2
  refine pm_after (h := (n, w, f)) (h2 := h2) (st0 := sk) ?_ hm hlo e1 e2 kk cx hl' e3 e4 hq
  subst hsk
  refine va_runV (cc := μ.2.1) (nL := μ.2.2.1) (Ts := pm_gw) (own := μ.1.cls) (C := ν.1.cls) (y := ν.1) (bytes := ν.2.1) (maxL := ν.2.2.1) (ret := ν.2.2.2) (n := k) (b := b) (As := As) ⟨cx.1, cx.2.1, cx.2.2.2.1, cx.2.2.2.2.1, hts⟩ (hC.2 l) ⟨⟨rfl, rfl, ?_, ?_, pm_pay hts hν, List.mem_cons_self, hts _ hν.1, hts _ hν.2.1, hν.2.2.1, ?_, hts _ hl⟩, hts _ hin, hts _ hse⟩ ⟨pm_blind, ?_, ?_⟩ rfl hk hl'.1 rfl ?_ hd ⟨?_, ?_⟩
  · show d1 + 1 ≤ R.frames; omega
  · show 8 + (ν.2.2.1 + 11) + 40 * d1 ≤ R.locals; omega
  · intro sig hs
    have := hν.2.2.2.1
    rw [hs] at this
    exact (Option.some.inj this).symm
  · obtain ⟨q', h1', cell, g1, g2, g3, -⟩ := (hR.2.2 b _ hb).2
    have hr : q' = q := Option.some.inj (h1'.symm.trans hq0)
    subst hr
    exact ⟨cell, g1, by rw [g3]; rfl, by rw [g2, ← hqc]; exact (cx.2.2.2.2.2.2.2.2.1.1.1 ci _ hq0).2.1⟩
  · intro U hU hW
    exact ⟨rfl, cx.2.2.2.2.2.2.2.2.1.warm hW, by rw [hU]; exact hR.moved hW.alike⟩
  · exact lv_room (pm_rest4 hst)
  · show n - n0 + (h2.1 - n) ≤ R.cells
    have := hm2.1; dsimp only at hm e1; omega
  · show w - w0 + (h2.2.1 - w) ≤ R.slots
    have := hm2.2; dsimp only at hm e2; omega
theorem px_callS {ν : pm_M} {i k d1 : Nat} {As sk : List Value} {v : Option Value} {h2 : pm_H} (hl : Cond.methodLink μ.1.cls i ν.1 ∈ pm_gw) (hstt : Cond.static ν.1 ∈ pm_gw) (hν : pm_mok ν k) (hd : decode μ.2.1 pc = .ok (.invokestatic i, 3)) (hC : CT B D d1 ν As (n, w, f) v h2) (hk : As.length = k) (hsk : sk = As.reverse ++ st) (hdd : d1 + 1 ≤ d) (hst : st.length ≤ 4)
    (kk : EX B D d μ (pc + 3) ls (v.toList ++ st) h2 r h1) : EX B D d μ pc ls sk (n, w, f) r h1 := by
  refine ⟨⟨Nat.le_trans hC.1.1 kk.1.1, Nat.le_trans hC.1.2 kk.1.2⟩, fun p l e R s m args below meth c H locs lsA n0 w0 Q cx hl' hR hlo e1 e2 e3 e4 hq => ?_⟩
  have hts := cx.2.2.2.2.2.1
  have hm := hC.1
  have hm2 := kk.1
  have hR1 := cx.2.2.2.2.2.2.2.2.2.1
  have hR2 := cx.2.2.2.2.2.2.2.2.2.2
  have hν5 := hν.2.2.2.2
  refine pm_after (h := (n, w, f)) (h2 := h2) (st0 := sk) ?_ hm hlo e1 e2 kk cx hl' e3 e4 hq
  subst hsk
  refine va_runS (cc := μ.2.1) (nL := μ.2.2.1) (Ts := pm_gw) (own := μ.1.cls) (y := ν.1) (bytes := ν.2.1) (maxL := ν.2.2.1) (ret := ν.2.2.2) (n := k) (As := As) ⟨cx.1, cx.2.1, cx.2.2.2.1, cx.2.2.2.2.1, hts⟩ (hC.2 l) ⟨⟨rfl, rfl, ?_, ?_, pm_pay hts hν, List.mem_cons_self, hts _ hν.1, hts _ hν.2.1, hν.2.2.1, ?_, hts _ hl⟩, hts _ hstt⟩ ⟨pm_blind, ?_⟩ rfl hk hl'.1 rfl ?_ hd ⟨?_, ?_⟩
  · show d1 + 1 ≤ R.frames; omega
  · show 8 + (ν.2.2.1 + 11) + 40 * d1 ≤ R.locals; omega
  · intro sig hs
    have := hν.2.2.2.1
    rw [hs] at this
    exact (Option.some.inj this).symm
  · intro U hU hW
    exact ⟨rfl, cx.2.2.2.2.2.2.2.2.1.warm hW, by rw [hU]; exact hR.moved hW.alike⟩
  · exact lv_room (pm_rest4 hst)
  · show n - n0 + (h2.1 - n) ≤ R.cells
    have := hm2.1; dsimp only at hm e1; omega
  · show w - w0 + (h2.2.1 - w) ≤ R.slots
    have := hm2.2; dsimp only at hm e2; omega
theorem px_callSN {ν : pm_M} {i k d1 : Nat} {As sk : List Value} {v : Option Value} {h2 : pm_H} (hl : pm_lkN μ.1.cls i ν.1) (hstt : Cond.static ν.1 ∈ pm_gw) (hν : pm_mok ν k) (hd : decode μ.2.1 pc = .ok (.invokestatic i, 3)) (hC : CT B D d1 ν As (n, w, f) v h2) (hk : As.length = k) (hsk : sk = As.reverse ++ st) (hdd : d1 + 1 ≤ d) (hst : st.length ≤ 4)
    (kk : EX B D d μ (pc + 3) ls (v.toList ++ st) h2 r h1) : EX B D d μ pc ls sk (n, w, f) r h1 := by
  refine ⟨⟨Nat.le_trans hC.1.1 kk.1.1, Nat.le_trans hC.1.2 kk.1.2⟩, fun p l e R s m args below meth c H locs lsA n0 w0 Q cx hl' hR hlo e1 e2 e3 e4 hq => ?_⟩
  have hts := cx.2.2.2.2.2.1
  have hm := hC.1
  have hm2 := kk.1
  have hR1 := cx.2.2.2.2.2.2.2.2.2.1
  have hR2 := cx.2.2.2.2.2.2.2.2.2.2
  have hν5 := hν.2.2.2.2
  obtain ⟨host, hln⟩ := hl
  refine pm_after (h := (n, w, f)) (h2 := h2) (st0 := sk) ?_ hm hlo e1 e2 kk cx hl' e3 e4 hq
  subst hsk
  refine va_runSN (cc := μ.2.1) (nL := μ.2.2.1) (Ts := pm_gw) (own := μ.1.cls) (host := host) (y := ν.1) (bytes := ν.2.1) (maxL := ν.2.2.1) (ret := ν.2.2.2) (n := k) (As := As) ⟨cx.1, cx.2.1, cx.2.2.2.1, cx.2.2.2.2.1, hts⟩ (hC.2 l) ⟨⟨⟨rfl, rfl, ?_, ?_, pm_pay hts hν, List.mem_cons_self⟩, hts _ hν.1, hts _ hν.2.1, hν.2.2.1, ?_, va_Nw.use rfl (cx.2.2.2.2.2.2.2.2.1.2.1 _ _ _ _ hln)⟩, hts _ hstt, trivial⟩ ⟨pm_blind, ?_⟩ rfl hk hl'.1 rfl ?_ hd ⟨?_, ?_⟩
  · show d1 + 1 ≤ R.frames; omega
  · show 8 + (ν.2.2.1 + 11) + 40 * d1 ≤ R.locals; omega
  · intro sig hs
    have := hν.2.2.2.1
    rw [hs] at this
    exact (Option.some.inj this).symm
  · intro U hU hW
    exact ⟨rfl, cx.2.2.2.2.2.2.2.2.1.warm hW, by rw [hU]; exact hR.moved hW.alike⟩
  · exact lv_room (pm_rest4 hst)
  · show n - n0 + (h2.1 - n) ≤ R.cells
    have := hm2.1; dsimp only at hm e1; omega
  · show w - w0 + (h2.2.1 - w) ≤ R.slots
    have := hm2.2; dsimp only at hm e2; omega
theorem px_callI {ν : pm_M} {i b k d1 : Nat} {As sk : List Value} {h2 : pm_H} (hret : ν.2.2.2 = none) (hini : ν.1.name = "<init>") (hl : Cond.methodLink μ.1.cls i ν.1 ∈ pm_gw) (hin : Cond.instanceMethod ν.1 ∈ pm_gw) (hν : pm_mok ν k) (hd : decode μ.2.1 pc = .ok (.invokespecial i, 3)) (hC : CT B D d1 ν (.ref b :: As) (n, w, f) none h2) (hk : As.length = k) (hsk : sk = As.reverse ++ .ref b :: st) (hdd : d1 + 1 ≤ d) (hst : st.length ≤ 4)
    (kk : EX B D d μ (pc + 3) ls st h2 r h1) : EX B D d μ pc ls sk (n, w, f) r h1 := by
  refine ⟨⟨Nat.le_trans hC.1.1 kk.1.1, Nat.le_trans hC.1.2 kk.1.2⟩, fun p l e R s m args below meth c H locs lsA n0 w0 Q cx hl' hR hlo e1 e2 e3 e4 hq => ?_⟩
  have hts := cx.2.2.2.2.2.1
  have hm := hC.1
  have hm2 := kk.1
  have hR1 := cx.2.2.2.2.2.2.2.2.2.1
  have hR2 := cx.2.2.2.2.2.2.2.2.2.2
  have hν5 := hν.2.2.2.2
  refine pm_after (h := (n, w, f)) (h2 := h2) (st0 := sk) (v := none) ?_ hm hlo e1 e2 kk cx hl' e3 e4 hq
  subst hsk
  refine va_runI (cc := μ.2.1) (nL := μ.2.2.1) (Ts := pm_gw) (own := μ.1.cls) (y := ν.1) (bytes := ν.2.1) (maxL := ν.2.2.1) (n := k) (b := b) (As := As) ⟨cx.1, cx.2.1, cx.2.2.2.1, cx.2.2.2.2.1, hts⟩ (hC.2 l) ⟨⟨rfl, rfl, ?_, ?_, pm_pay hts hν, by rw [← hret]; exact List.mem_cons_self, by rw [← hret]; exact hts _ hν.1, hts _ hν.2.1, hν.2.2.1, ?_, hts _ hl⟩, hini, hts _ hin⟩ ⟨pm_blind, ?_⟩ rfl hk hl'.1 rfl ?_ hd ⟨?_, ?_⟩
  · show d1 + 1 ≤ R.frames; omega
  · show 8 + (ν.2.2.1 + 11) + 40 * d1 ≤ R.locals; omega
  · intro sig hs
    have := hν.2.2.2.1
    rw [hs] at this
    exact (Option.some.inj this).symm
  · intro U hU hW
    exact ⟨rfl, cx.2.2.2.2.2.2.2.2.1.warm hW, by rw [hU]; exact hR.moved hW.alike⟩
  · exact lv_room (pm_rest4 hst)
  · show n - n0 + (h2.1 - n) ≤ R.cells
    have := hm2.1; dsimp only at hm e1; omega
  · show w - w0 + (h2.2.1 - w) ≤ R.slots
    have := hm2.2; dsimp only at hm e2; omega
theorem px_callIN {ν : pm_M} {i b k d1 : Nat} {As sk : List Value} {h2 : pm_H} (hret : ν.2.2.2 = none) (hini : ν.1.name = "<init>") (hl : pm_lkN μ.1.cls i ν.1) (hin : Cond.instanceMethod ν.1 ∈ pm_gw) (hν : pm_mok ν k) (hd : decode μ.2.1 pc = .ok (.invokespecial i, 3)) (hC : CT B D d1 ν (.ref b :: As) (n, w, f) none h2) (hk : As.length = k) (hsk : sk = As.reverse ++ .ref b :: st) (hdd : d1 + 1 ≤ d) (hst : st.length ≤ 4)
    (kk : EX B D d μ (pc + 3) ls st h2 r h1) : EX B D d μ pc ls sk (n, w, f) r h1 := by
  refine ⟨⟨Nat.le_trans hC.1.1 kk.1.1, Nat.le_trans hC.1.2 kk.1.2⟩, fun p l e R s m args below meth c H locs lsA n0 w0 Q cx hl' hR hlo e1 e2 e3 e4 hq => ?_⟩
  have hts := cx.2.2.2.2.2.1
  have hm := hC.1
  have hm2 := kk.1
  have hR1 := cx.2.2.2.2.2.2.2.2.2.1
  have hR2 := cx.2.2.2.2.2.2.2.2.2.2
  have hν5 := hν.2.2.2.2
  obtain ⟨host, hln⟩ := hl
  refine pm_after (h := (n, w, f)) (h2 := h2) (st0 := sk) (v := none) ?_ hm hlo e1 e2 kk cx hl' e3 e4 hq
  subst hsk
  refine va_runIN (cc := μ.2.1) (nL := μ.2.2.1) (Ts := pm_gw) (own := μ.1.cls) (host := host) (y := ν.1) (bytes := ν.2.1) (maxL := ν.2.2.1) (n := k) (b := b) (As := As) ⟨cx.1, cx.2.1, cx.2.2.2.1, cx.2.2.2.2.1, hts⟩ (hC.2 l) ⟨⟨⟨rfl, rfl, ?_, ?_, pm_pay hts hν, by rw [← hret]; exact List.mem_cons_self⟩, by rw [← hret]; exact hts _ hν.1, hts _ hν.2.1, hν.2.2.1, ?_, va_Nw.use rfl (cx.2.2.2.2.2.2.2.2.1.2.1 _ _ _ _ hln)⟩, hini, hts _ hin⟩ ⟨pm_blind, ?_⟩ rfl hk hl'.1 rfl ?_ hd ⟨?_, ?_⟩
  · show d1 + 1 ≤ R.frames; omega
  · show 8 + (ν.2.2.1 + 11) + 40 * d1 ≤ R.locals; omega
  · intro sig hs
    have := hν.2.2.2.1
    rw [hs] at this
    exact (Option.some.inj this).symm
  · intro U hU hW
    exact ⟨rfl, cx.2.2.2.2.2.2.2.2.1.warm hW, by rw [hU]; exact hR.moved hW.alike⟩
  · exact lv_room (pm_rest4 hst)
  · show n - n0 + (h2.1 - n) ≤ R.cells
    have := hm2.1; dsimp only at hm e1; omega
  · show w - w0 + (h2.2.1 - w) ≤ R.slots
    have := hm2.2; dsimp only at hm e2; omega
/-! returns -/
theorem px_ret {rv : Option Value} (hr : rv.toList = st) (hd : decode μ.2.1 pc = .ok (pm_ret μ.2.2.2, 1)) : EX B D d μ pc ls st (n, w, f) rv (n, w, f) := by
  subst hr
  refine ⟨⟨Nat.le_refl _, Nat.le_refl _⟩, fun p l e R s m args below meth c H locs lsA n0 w0 Q cx hl' hR hlo e1 e2 e3 e4 hq => ?_⟩
  exact hq H locs lsA pc hd hR hlo
/-- the locals may be forgotten -/
theorem px_less {h : pm_H} {ls2 : pm_Ls} (hlen : ls2.length = ls.length) (hle : ∀ (i : Nat) (v : Value), ls2[i]? = some (some v) → ls[i]? = some (some v)) (kk : EX B D d μ pc ls2 st h r h1) : EX B D d μ pc ls st h r h1 := by
  refine ⟨kk.1, fun p l e R s m args below meth c H locs lsA n0 w0 Q cx hl hR hlo e1 e2 e3 e4 hq => ?_⟩
  exact kk.2 p l e R s m args below meth c H locs lsA n0 w0 Q cx ⟨hl.1, hl.2.1, hlen.trans hl.2.2.1, fun i v h => hl.2.2.2 i v (hle i v h)⟩ hR hlo e1 e2 e3 e4 hq
/-- a heap told otherwise -/
theorem px_heap {h h' : pm_H} (he : h = h') (kk : EX B D d μ pc ls st h' r h1) : EX B D d μ pc ls st h r h1 := he ▸ kk
end PZ
end
section
abbrev mX6_init : pm_M := (yX6_init, cX6_init, 2, none)
theorem co_X6_init : Cond.code yX6_init cX6_init 2 none ∈ pm_gw := pm_gw_of 51 (by decide +kernel) rfl
abbrev mX0_init : pm_M := (yX0_init, cX0_init, 1, none)
theorem co_X0_init : Cond.code yX0_init cX0_init 1 none ∈ pm_gw := pm_gw_of 59 (by decide +kernel) rfl
abbrev mX5_init : pm_M := (yX5_init, cX5_init, 2, none)
theorem co_X5_init : Cond.code yX5_init cX5_init 2 none ∈ pm_gw := pm_gw_of 65 (by decide +kernel) rfl
abbrev mX4_init : pm_M := (yX4_init, cX4_init, 1, none)
theorem co_X4_init : Cond.code yX4_init cX4_init 1 none ∈ pm_gw := pm_gw_of 74 (by decide +kernel) rfl
abbrev mX1_ofFailure : pm_M := (yX1_ofFailure, cX1_ofFailure, 4, (some (.object "BuildEngine$Result")))
theorem co_X1_ofFailure : Cond.code yX1_ofFailure cX1_ofFailure 4 (some (.object "BuildEngine$Result")) ∈ pm_gw := pm_gw_of 111 (by decide +kernel) rfl
abbrev mX1_init : pm_M := (yX1_init, cX1_init, 6, none)
theorem co_X1_init : Cond.code yX1_init cX1_init 6 none ∈ pm_gw := pm_gw_of 116 (by decide +kernel) rfl
abbrev mX3_init : pm_M := (yX3_init, cX3_init, 1, none)
theorem co_X3_init : Cond.code yX3_init cX3_init 1 none ∈ pm_gw := pm_gw_of 201 (by decide +kernel) rfl
abbrev mX2_init : pm_M := (yX2_init, cX2_init, 1, none)
theorem co_X2_init : Cond.code yX2_init cX2_init 1 none ∈ pm_gw := pm_gw_of 217 (by decide +kernel) rfl
abbrev mX6_give : pm_M := (yX6_give, cX6_give, 3, (some .int))
theorem co_X6_give : Cond.code yX6_give cX6_give 3 (some .int) ∈ pm_gw := pm_gw_of 257 (by decide +kernel) rfl
abbrev mX6_isInput : pm_M := (yX6_isInput, cX6_isInput, 1, (some .boolean))
theorem co_X6_isInput : Cond.code yX6_isInput cX6_isInput 1 (some .boolean) ∈ pm_gw := pm_gw_of 260 (by decide +kernel) rfl
abbrev mX6_isContent : pm_M := (yX6_isContent, cX6_isContent, 2, (some .boolean))
theorem co_X6_isContent : Cond.code yX6_isContent cX6_isContent 2 (some .boolean) ∈ pm_gw := pm_gw_of 263 (by decide +kernel) rfl
abbrev mX5_giveContent : pm_M := (yX5_giveContent, cX5_giveContent, 4, (some .boolean))
theorem co_X5_giveContent : Cond.code yX5_giveContent cX5_giveContent 4 (some .boolean) ∈ pm_gw := pm_gw_of 269 (by decide +kernel) rfl
abbrev mX5_contentOf : pm_M := (yX5_contentOf, cX5_contentOf, 2, (some (.object "BuildEngine$Result")))
theorem co_X5_contentOf : Cond.code yX5_contentOf cX5_contentOf 2 (some (.object "BuildEngine$Result")) ∈ pm_gw := pm_gw_of 273 (by decide +kernel) rfl
abbrev mX1_ofContent : pm_M := (yX1_ofContent, cX1_ofContent, 1, (some (.object "BuildEngine$Result")))
theorem co_X1_ofContent : Cond.code yX1_ofContent cX1_ofContent 1 (some (.object "BuildEngine$Result")) ∈ pm_gw := pm_gw_of 277 (by decide +kernel) rfl
abbrev mX6_take : pm_M := (yX6_take, cX6_take, 3, (some .int))
theorem co_X6_take : Cond.code yX6_take cX6_take 3 (some .int) ∈ pm_gw := pm_gw_of 281 (by decide +kernel) rfl
abbrev mX5_takeContent : pm_M := (yX5_takeContent, cX5_takeContent, 2, none)
theorem co_X5_takeContent : Cond.code yX5_takeContent cX5_takeContent 2 none ∈ pm_gw := pm_gw_of 286 (by decide +kernel) rfl
abbrev mX6_feed : pm_M := (yX6_feed, cX6_feed, 2, (some .int))
theorem co_X6_feed : Cond.code yX6_feed cX6_feed 2 (some .int) ∈ pm_gw := pm_gw_of 290 (by decide +kernel) rfl
abbrev mX3_append : pm_M := (yX3_append, cX3_append, 2, (some .boolean))
theorem co_X3_append : Cond.code yX3_append cX3_append 2 (some .boolean) ∈ pm_gw := pm_gw_of 294 (by decide +kernel) rfl
abbrev mX6_clear : pm_M := (yX6_clear, cX6_clear, 1, (some .int))
theorem co_X6_clear : Cond.code yX6_clear cX6_clear 1 (some .int) ∈ pm_gw := pm_gw_of 298 (by decide +kernel) rfl
abbrev mX3_empty : pm_M := (yX3_empty, cX3_empty, 2, (some .int))
theorem co_X3_empty : Cond.code yX3_empty cX3_empty 2 (some .int) ∈ pm_gw := pm_gw_of 302 (by decide +kernel) rfl
abbrev mX6_rule : pm_M := (yX6_rule, cX6_rule, 4, (some .int))
theorem co_X6_rule : Cond.code yX6_rule cX6_rule 4 (some .int) ∈ pm_gw := pm_gw_of 306 (by decide +kernel) rfl
abbrev mX5_targetOf : pm_M := (yX5_targetOf, cX5_targetOf, 2, (some (.object "BuildEngine$Target")))
theorem co_X5_targetOf : Cond.code yX5_targetOf cX5_targetOf 2 (some (.object "BuildEngine$Target")) ∈ pm_gw := pm_gw_of 310 (by decide +kernel) rfl
abbrev mX6_isTarget : pm_M := (yX6_isTarget, cX6_isTarget, 1, (some .boolean))
theorem co_X6_isTarget : Cond.code yX6_isTarget cX6_isTarget 1 (some .boolean) ∈ pm_gw := pm_gw_of 313 (by decide +kernel) rfl
abbrev mX3_faultAsRule : pm_M := (yX3_faultAsRule, cX3_faultAsRule, 4, (some .int))
theorem co_X3_faultAsRule : Cond.code yX3_faultAsRule cX3_faultAsRule 4 (some .int) ∈ pm_gw := pm_gw_of 317 (by decide +kernel) rfl
abbrev mX3_letterAt : pm_M := (yX3_letterAt, cX3_letterAt, 2, (some .int))
theorem co_X3_letterAt : Cond.code yX3_letterAt cX3_letterAt 2 (some .int) ∈ pm_gw := pm_gw_of 321 (by decide +kernel) rfl
abbrev mX6_isSign : pm_M := (yX6_isSign, cX6_isSign, 1, (some .boolean))
theorem co_X6_isSign : Cond.code yX6_isSign cX6_isSign 1 (some .boolean) ∈ pm_gw := pm_gw_of 324 (by decide +kernel) rfl
abbrev mX6_asksForKey : pm_M := (yX6_asksForKey, cX6_asksForKey, 1, (some .boolean))
theorem co_X6_asksForKey : Cond.code yX6_asksForKey cX6_asksForKey 1 (some .boolean) ∈ pm_gw := pm_gw_of 327 (by decide +kernel) rfl
abbrev mX6_isFigure : pm_M := (yX6_isFigure, cX6_isFigure, 1, (some .boolean))
theorem co_X6_isFigure : Cond.code yX6_isFigure cX6_isFigure 1 (some .boolean) ∈ pm_gw := pm_gw_of 330 (by decide +kernel) rfl
abbrev mX3_tellsNoKey : pm_M := (yX3_tellsNoKey, cX3_tellsNoKey, 4, (some .boolean))
theorem co_X3_tellsNoKey : Cond.code yX3_tellsNoKey cX3_tellsNoKey 4 (some .boolean) ∈ pm_gw := pm_gw_of 334 (by decide +kernel) rfl
abbrev mX3_numberAt : pm_M := (yX3_numberAt, cX3_numberAt, 2, (some .int))
theorem co_X3_numberAt : Cond.code yX3_numberAt cX3_numberAt 2 (some .int) ∈ pm_gw := pm_gw_of 338 (by decide +kernel) rfl
abbrev mX6_isKey : pm_M := (yX6_isKey, cX6_isKey, 1, (some .boolean))
theorem co_X6_isKey : Cond.code yX6_isKey cX6_isKey 1 (some .boolean) ∈ pm_gw := pm_gw_of 342 (by decide +kernel) rfl
abbrev mX4_readRule : pm_M := (yX4_readRule, cX4_readRule, 3, none)
theorem co_X4_readRule : Cond.code yX4_readRule cX4_readRule 3 none ∈ pm_gw := pm_gw_of 346 (by decide +kernel) rfl
abbrev mJ9_min_7cf53 : pm_M := (yJ9_min_7cf53, cJ9_min_7cf53, 2, (some .int))
theorem co_J9_min_7cf53 : Cond.code yJ9_min_7cf53 cJ9_min_7cf53 2 (some .int) ∈ pm_gw := pm_gw_of 349 (by decide +kernel) rfl
abbrev mX4_dropTrace : pm_M := (yX4_dropTrace, cX4_dropTrace, 1, none)
theorem co_X4_dropTrace : Cond.code yX4_dropTrace cX4_dropTrace 1 none ∈ pm_gw := pm_gw_of 355 (by decide +kernel) rfl
abbrev mX6_drop : pm_M := (yX6_drop, cX6_drop, 4, (some .int))
theorem co_X6_drop : Cond.code yX6_drop cX6_drop 4 (some .int) ∈ pm_gw := pm_gw_of 359 (by decide +kernel) rfl
abbrev mX4_dropRule : pm_M := (yX4_dropRule, cX4_dropRule, 1, none)
theorem co_X4_dropRule : Cond.code yX4_dropRule cX4_dropRule 1 none ∈ pm_gw := pm_gw_of 363 (by decide +kernel) rfl
abbrev mX6_copy : pm_M := (yX6_copy, cX6_copy, 5, (some .int))
theorem co_X6_copy : Cond.code yX6_copy cX6_copy 5 (some .int) ∈ pm_gw := pm_gw_of 367 (by decide +kernel) rfl
abbrev mX4_takeRule : pm_M := (yX4_takeRule, cX4_takeRule, 2, none)
theorem co_X4_takeRule : Cond.code yX4_takeRule cX4_takeRule 2 none ∈ pm_gw := pm_gw_of 371 (by decide +kernel) rfl
abbrev mX4_copyRule : pm_M := (yX4_copyRule, cX4_copyRule, 2, none)
theorem co_X4_copyRule : Cond.code yX4_copyRule cX4_copyRule 2 none ∈ pm_gw := pm_gw_of 375 (by decide +kernel) rfl
abbrev mX6_step : pm_M := (yX6_step, cX6_step, 4, (some .int))
theorem co_X6_step : Cond.code yX6_step cX6_step 4 (some .int) ∈ pm_gw := pm_gw_of 382 (by decide +kernel) rfl
abbrev mX4_signAt : pm_M := (yX4_signAt, cX4_signAt, 2, (some .int))
theorem co_X4_signAt : Cond.code yX4_signAt cX4_signAt 2 (some .int) ∈ pm_gw := pm_gw_of 386 (by decide +kernel) rfl
abbrev mX4_figuresAt : pm_M := (yX4_figuresAt, cX4_figuresAt, 2, (some .int))
theorem co_X4_figuresAt : Cond.code yX4_figuresAt cX4_figuresAt 2 (some .int) ∈ pm_gw := pm_gw_of 390 (by decide +kernel) rfl
abbrev mX6_build : pm_M := (yX6_build, cX6_build, 2, (some .int))
theorem co_X6_build : Cond.code yX6_build cX6_build 2 (some .int) ∈ pm_gw := pm_gw_of 394 (by decide +kernel) rfl
abbrev mX0_startsFor : pm_M := (yX0_startsFor, cX0_startsFor, 3, (some .int))
theorem co_X0_startsFor : Cond.code yX0_startsFor cX0_startsFor 3 (some .int) ∈ pm_gw := pm_gw_of 399 (by decide +kernel) rfl
abbrev mX0_bitOf : pm_M := (yX0_bitOf, cX0_bitOf, 1, (some .int))
theorem co_X0_bitOf : Cond.code yX0_bitOf cX0_bitOf 1 (some .int) ∈ pm_gw := pm_gw_of 402 (by decide +kernel) rfl
abbrev mX0_buildEach : pm_M := (yX0_buildEach, cX0_buildEach, 4, (some .int))
theorem co_X0_buildEach : Cond.code yX0_buildEach cX0_buildEach 4 (some .int) ∈ pm_gw := pm_gw_of 407 (by decide +kernel) rfl
abbrev mX0_forgetBuild : pm_M := (yX0_forgetBuild, cX0_forgetBuild, 1, none)
theorem co_X0_forgetBuild : Cond.code yX0_forgetBuild cX0_forgetBuild 1 none ∈ pm_gw := pm_gw_of 411 (by decide +kernel) rfl
abbrev mX0_isIn : pm_M := (yX0_isIn, cX0_isIn, 2, (some .boolean))
theorem co_X0_isIn : Cond.code yX0_isIn cX0_isIn 2 (some .boolean) ∈ pm_gw := pm_gw_of 414 (by decide +kernel) rfl
abbrev mX0_buildTarget : pm_M := (yX0_buildTarget, cX0_buildTarget, 4, none)
theorem co_X0_buildTarget : Cond.code yX0_buildTarget cX0_buildTarget 4 none ∈ pm_gw := pm_gw_of 418 (by decide +kernel) rfl
abbrev mX5_emptyOf : pm_M := (yX5_emptyOf, cX5_emptyOf, 2, (some (.object "BuildEngine$Result")))
theorem co_X5_emptyOf : Cond.code yX5_emptyOf cX5_emptyOf 2 (some (.object "BuildEngine$Result")) ∈ pm_gw := pm_gw_of 423 (by decide +kernel) rfl
abbrev mX0_isStillSame : pm_M := (yX0_isStillSame, cX0_isStillSame, 5, (some .boolean))
theorem co_X0_isStillSame : Cond.code yX0_isStillSame cX0_isStillSame 5 (some .boolean) ∈ pm_gw := pm_gw_of 428 (by decide +kernel) rfl
abbrev mX4_hasTrace : pm_M := (yX4_hasTrace, cX4_hasTrace, 1, (some .boolean))
theorem co_X4_hasTrace : Cond.code yX4_hasTrace cX4_hasTrace 1 (some .boolean) ∈ pm_gw := pm_gw_of 432 (by decide +kernel) rfl
abbrev mX4_tracedKey : pm_M := (yX4_tracedKey, cX4_tracedKey, 2, (some .int))
theorem co_X4_tracedKey : Cond.code yX4_tracedKey cX4_tracedKey 2 (some .int) ∈ pm_gw := pm_gw_of 436 (by decide +kernel) rfl
abbrev mX5_resultOf : pm_M := (yX5_resultOf, cX5_resultOf, 4, (some (.object "BuildEngine$Result")))
theorem co_X5_resultOf : Cond.code yX5_resultOf cX5_resultOf 4 (some (.object "BuildEngine$Result")) ∈ pm_gw := pm_gw_of 440 (by decide +kernel) rfl
abbrev mX4_tracedResult : pm_M := (yX4_tracedResult, cX4_tracedResult, 2, (some (.object "BuildEngine$Result")))
theorem co_X4_tracedResult : Cond.code yX4_tracedResult cX4_tracedResult 2 (some (.object "BuildEngine$Result")) ∈ pm_gw := pm_gw_of 446 (by decide +kernel) rfl
abbrev mX1_areSame : pm_M := (yX1_areSame, cX1_areSame, 4, (some .boolean))
theorem co_X1_areSame : Cond.code yX1_areSame cX1_areSame 4 (some .boolean) ∈ pm_gw := pm_gw_of 449 (by decide +kernel) rfl
abbrev mX0_runToEnd : pm_M := (yX0_runToEnd, cX0_runToEnd, 6, none)
theorem co_X0_runToEnd : Cond.code yX0_runToEnd cX0_runToEnd 6 none ∈ pm_gw := pm_gw_of 453 (by decide +kernel) rfl
abbrev mX0_runOnce : pm_M := (yX0_runOnce, cX0_runOnce, 14, (some (.object "BuildEngine$Result")))
theorem co_X0_runOnce : Cond.code yX0_runOnce cX0_runOnce 14 (some (.object "BuildEngine$Result")) ∈ pm_gw := pm_gw_of 457 (by decide +kernel) rfl
abbrev mX4_startTrace : pm_M := (yX4_startTrace, cX4_startTrace, 1, none)
theorem co_X4_startTrace : Cond.code yX4_startTrace cX4_startTrace 1 none ∈ pm_gw := pm_gw_of 461 (by decide +kernel) rfl
abbrev mX0_resultIfDone : pm_M := (yX0_resultIfDone, cX0_resultIfDone, 2, (some (.object "BuildEngine$Result")))
theorem co_X0_resultIfDone : Cond.code yX0_resultIfDone cX0_resultIfDone 2 (some (.object "BuildEngine$Result")) ∈ pm_gw := pm_gw_of 469 (by decide +kernel) rfl
abbrev mX4_noteInTrace : pm_M := (yX4_noteInTrace, cX4_noteInTrace, 3, none)
theorem co_X4_noteInTrace : Cond.code yX4_noteInTrace cX4_noteInTrace 3 none ∈ pm_gw := pm_gw_of 473 (by decide +kernel) rfl
abbrev mX4_traces : pm_M := (yX4_traces, cX4_traces, 3, (some .boolean))
theorem co_X4_traces : Cond.code yX4_traces cX4_traces 3 (some .boolean) ∈ pm_gw := pm_gw_of 477 (by decide +kernel) rfl
abbrev mX1_isFailure : pm_M := (yX1_isFailure, cX1_isFailure, 1, (some .boolean))
theorem co_X1_isFailure : Cond.code yX1_isFailure cX1_isFailure 1 (some .boolean) ∈ pm_gw := pm_gw_of 482 (by decide +kernel) rfl
abbrev mX0_worked : pm_M := (yX0_worked, cX0_worked, 5, (some .long))
theorem co_X0_worked : Cond.code yX0_worked cX0_worked 5 (some .long) ∈ pm_gw := pm_gw_of 485 (by decide +kernel) rfl
abbrev mX0_failingSort : pm_M := (yX0_failingSort, cX0_failingSort, 7, (some .int))
theorem co_X0_failingSort : Cond.code yX0_failingSort cX0_failingSort 7 (some .int) ∈ pm_gw := pm_gw_of 488 (by decide +kernel) rfl
abbrev mX0_stepsToPass : pm_M := (yX0_stepsToPass, cX0_stepsToPass, 4, (some .int))
theorem co_X0_stepsToPass : Cond.code yX0_stepsToPass cX0_stepsToPass 4 (some .int) ∈ pm_gw := pm_gw_of 492 (by decide +kernel) rfl
abbrev mX1_isOrComesOfSort : pm_M := (yX1_isOrComesOfSort, cX1_isOrComesOfSort, 3, (some .boolean))
theorem co_X1_isOrComesOfSort : Cond.code yX1_isOrComesOfSort cX1_isOrComesOfSort 3 (some .boolean) ∈ pm_gw := pm_gw_of 497 (by decide +kernel) rfl
abbrev mX0_noteDone : pm_M := (yX0_noteDone, cX0_noteDone, 2, none)
theorem co_X0_noteDone : Cond.code yX0_noteDone cX0_noteDone 2 none ∈ pm_gw := pm_gw_of 502 (by decide +kernel) rfl
abbrev mX5_failureOf : pm_M := (yX5_failureOf, cX5_failureOf, 3, (some (.object "BuildEngine$Result")))
theorem co_X5_failureOf : Cond.code yX5_failureOf cX5_failureOf 3 (some (.object "BuildEngine$Result")) ∈ pm_gw := pm_gw_of 506 (by decide +kernel) rfl
abbrev mX6_all : pm_M := (yX6_all, cX6_all, 2, (some .int))
theorem co_X6_all : Cond.code yX6_all cX6_all 2 (some .int) ∈ pm_gw := pm_gw_of 512 (by decide +kernel) rfl
abbrev mX6_isStops : pm_M := (yX6_isStops, cX6_isStops, 1, (some .boolean))
theorem co_X6_isStops : Cond.code yX6_isStops cX6_isStops 1 (some .boolean) ∈ pm_gw := pm_gw_of 515 (by decide +kernel) rfl
abbrev mX6_some : pm_M := (yX6_some, cX6_some, 3, (some .int))
theorem co_X6_some : Cond.code yX6_some cX6_some 3 (some .int) ∈ pm_gw := pm_gw_of 521 (by decide +kernel) rfl
abbrev mX6_tried : pm_M := (yX6_tried, cX6_tried, 4, (some .int))
theorem co_X6_tried : Cond.code yX6_tried cX6_tried 4 (some .int) ∈ pm_gw := pm_gw_of 525 (by decide +kernel) rfl
abbrev mX5_copyFrom : pm_M := (yX5_copyFrom, cX5_copyFrom, 5, none)
theorem co_X5_copyFrom : Cond.code yX5_copyFrom cX5_copyFrom 5 none ∈ pm_gw := pm_gw_of 529 (by decide +kernel) rfl
abbrev mX4_copyFrom : pm_M := (yX4_copyFrom, cX4_copyFrom, 3, none)
theorem co_X4_copyFrom : Cond.code yX4_copyFrom cX4_copyFrom 3 none ∈ pm_gw := pm_gw_of 533 (by decide +kernel) rfl
abbrev mX6_result : pm_M := (yX6_result, cX6_result, 2, (some .int))
theorem co_X6_result : Cond.code yX6_result cX6_result 2 (some .int) ∈ pm_gw := pm_gw_of 537 (by decide +kernel) rfl
abbrev mX5_toldResult : pm_M := (yX5_toldResult, cX5_toldResult, 3, (some .int))
theorem co_X5_toldResult : Cond.code yX5_toldResult cX5_toldResult 3 (some .int) ∈ pm_gw := pm_gw_of 542 (by decide +kernel) rfl
abbrev mX1_asTold : pm_M := (yX1_asTold, cX1_asTold, 1, (some .int))
theorem co_X1_asTold : Cond.code yX1_asTold cX1_asTold 1 (some .int) ∈ pm_gw := pm_gw_of 547 (by decide +kernel) rfl
abbrev mX6_failure : pm_M := (yX6_failure, cX6_failure, 6, (some .int))
theorem co_X6_failure : Cond.code yX6_failure cX6_failure 6 (some .int) ∈ pm_gw := pm_gw_of 553 (by decide +kernel) rfl
abbrev mX6_causes : pm_M := (yX6_causes, cX6_causes, 3, (some .int))
theorem co_X6_causes : Cond.code yX6_causes cX6_causes 3 (some .int) ∈ pm_gw := pm_gw_of 558 (by decide +kernel) rfl
abbrev mX1_causeCount : pm_M := (yX1_causeCount, cX1_causeCount, 3, (some .int))
theorem co_X1_causeCount : Cond.code yX1_causeCount cX1_causeCount 3 (some .int) ∈ pm_gw := pm_gw_of 562 (by decide +kernel) rfl
abbrev mX6_root : pm_M := (yX6_root, cX6_root, 3, (some .int))
theorem co_X6_root : Cond.code yX6_root cX6_root 3 (some .int) ∈ pm_gw := pm_gw_of 566 (by decide +kernel) rfl
abbrev mX1_rootKey : pm_M := (yX1_rootKey, cX1_rootKey, 3, (some .int))
theorem co_X1_rootKey : Cond.code yX1_rootKey cX1_rootKey 3 (some .int) ∈ pm_gw := pm_gw_of 570 (by decide +kernel) rfl
abbrev mX6_blamed : pm_M := (yX6_blamed, cX6_blamed, 2, (some .int))
theorem co_X6_blamed : Cond.code yX6_blamed cX6_blamed 2 (some .int) ∈ pm_gw := pm_gw_of 574 (by decide +kernel) rfl
abbrev mX5_targetsFailingBy : pm_M := (yX5_targetsFailingBy, cX5_targetsFailingBy, 5, (some .int))
theorem co_X5_targetsFailingBy : Cond.code yX5_targetsFailingBy cX5_targetsFailingBy 5 (some .int) ∈ pm_gw := pm_gw_of 578 (by decide +kernel) rfl
abbrev mX1_isOrComesOfKey : pm_M := (yX1_isOrComesOfKey, cX1_isOrComesOfKey, 3, (some .boolean))
theorem co_X1_isOrComesOfKey : Cond.code yX1_isOrComesOfKey cX1_isOrComesOfKey 3 (some .boolean) ∈ pm_gw := pm_gw_of 583 (by decide +kernel) rfl
abbrev mX6_trace : pm_M := (yX6_trace, cX6_trace, 4, (some .int))
theorem co_X6_trace : Cond.code yX6_trace cX6_trace 4 (some .int) ∈ pm_gw := pm_gw_of 587 (by decide +kernel) rfl
abbrev mX6_seen : pm_M := (yX6_seen, cX6_seen, 5, (some .int))
theorem co_X6_seen : Cond.code yX6_seen cX6_seen 5 (some .int) ∈ pm_gw := pm_gw_of 593 (by decide +kernel) rfl
abbrev mX6_users : pm_M := (yX6_users, cX6_users, 2, (some .int))
theorem co_X6_users : Cond.code yX6_users cX6_users 2 (some .int) ∈ pm_gw := pm_gw_of 599 (by decide +kernel) rfl
abbrev mX5_targetsTracing : pm_M := (yX5_targetsTracing, cX5_targetsTracing, 5, (some .int))
theorem co_X5_targetsTracing : Cond.code yX5_targetsTracing cX5_targetsTracing 5 (some .int) ∈ pm_gw := pm_gw_of 603 (by decide +kernel) rfl
abbrev mX6_depth : pm_M := (yX6_depth, cX6_depth, 2, (some .int))
theorem co_X6_depth : Cond.code yX6_depth cX6_depth 2 (some .int) ∈ pm_gw := pm_gw_of 608 (by decide +kernel) rfl
abbrev mX5_depthOf : pm_M := (yX5_depthOf, cX5_depthOf, 4, (some .int))
theorem co_X5_depthOf : Cond.code yX5_depthOf cX5_depthOf 4 (some .int) ∈ pm_gw := pm_gw_of 612 (by decide +kernel) rfl
abbrev mJ7_fill_53178 : pm_M := (yJ7_fill_53178, cJ7_fill_53178, 4, none)
theorem co_J7_fill_53178 : Cond.code yJ7_fill_53178 cJ7_fill_53178 4 none ∈ pm_gw := pm_gw_of 615 (by decide +kernel) rfl
abbrev mX5_deepenAll : pm_M := (yX5_deepenAll, cX5_deepenAll, 4, (some .boolean))
theorem co_X5_deepenAll : Cond.code yX5_deepenAll cX5_deepenAll 4 (some .boolean) ∈ pm_gw := pm_gw_of 619 (by decide +kernel) rfl
abbrev mX5_depthByTrace : pm_M := (yX5_depthByTrace, cX5_depthByTrace, 5, (some .int))
theorem co_X5_depthByTrace : Cond.code yX5_depthByTrace cX5_depthByTrace 5 (some .int) ∈ pm_gw := pm_gw_of 623 (by decide +kernel) rfl
abbrev mJ9_max_7cf53 : pm_M := (yJ9_max_7cf53, cJ9_max_7cf53, 2, (some .int))
theorem co_J9_max_7cf53 : Cond.code yJ9_max_7cf53 cJ9_max_7cf53 2 (some .int) ∈ pm_gw := pm_gw_of 627 (by decide +kernel) rfl
abbrev mX6_order : pm_M := (yX6_order, cX6_order, 2, (some .int))
theorem co_X6_order : Cond.code yX6_order cX6_order 2 (some .int) ∈ pm_gw := pm_gw_of 631 (by decide +kernel) rfl
abbrev mX0_doneAt : pm_M := (yX0_doneAt, cX0_doneAt, 2, (some .int))
theorem co_X0_doneAt : Cond.code yX0_doneAt cX0_doneAt 2 (some .int) ∈ pm_gw := pm_gw_of 635 (by decide +kernel) rfl
abbrev mX6_unlike : pm_M := (yX6_unlike, cX6_unlike, 1, (some .int))
theorem co_X6_unlike : Cond.code yX6_unlike cX6_unlike 1 (some .int) ∈ pm_gw := pm_gw_of 639 (by decide +kernel) rfl
abbrev mX5_unlikeResults : pm_M := (yX5_unlikeResults, cX5_unlikeResults, 3, (some .int))
theorem co_X5_unlikeResults : Cond.code yX5_unlikeResults cX5_unlikeResults 3 (some .int) ∈ pm_gw := pm_gw_of 643 (by decide +kernel) rfl
abbrev mX5_hasSameBelow : pm_M := (yX5_hasSameBelow, cX5_hasSameBelow, 3, (some .boolean))
theorem co_X5_hasSameBelow : Cond.code yX5_hasSameBelow cX5_hasSameBelow 3 (some .boolean) ∈ pm_gw := pm_gw_of 647 (by decide +kernel) rfl
abbrev mX6_fresh : pm_M := (yX6_fresh, cX6_fresh, 1, (some .int))
theorem co_X6_fresh : Cond.code yX6_fresh cX6_fresh 1 (some .int) ∈ pm_gw := pm_gw_of 652 (by decide +kernel) rfl
abbrev mX5_targetsUpToDate : pm_M := (yX5_targetsUpToDate, cX5_targetsUpToDate, 3, (some .int))
theorem co_X5_targetsUpToDate : Cond.code yX5_targetsUpToDate cX5_targetsUpToDate 3 (some .int) ∈ pm_gw := pm_gw_of 656 (by decide +kernel) rfl
abbrev mX5_isUpToDate : pm_M := (yX5_isUpToDate, cX5_isUpToDate, 3, (some .boolean))
theorem co_X5_isUpToDate : Cond.code yX5_isUpToDate cX5_isUpToDate 3 (some .boolean) ∈ pm_gw := pm_gw_of 660 (by decide +kernel) rfl
abbrev mX6_forget : pm_M := (yX6_forget, cX6_forget, 4, (some .int))
theorem co_X6_forget : Cond.code yX6_forget cX6_forget 4 (some .int) ∈ pm_gw := pm_gw_of 666 (by decide +kernel) rfl
abbrev mX6_told : pm_M := (yX6_told, cX6_told, 2, (some .int))
theorem co_X6_told : Cond.code yX6_told cX6_told 2 (some .int) ∈ pm_gw := pm_gw_of 671 (by decide +kernel) rfl
abbrev mX5_ruleCount : pm_M := (yX5_ruleCount, cX5_ruleCount, 4, (some .int))
theorem co_X5_ruleCount : Cond.code yX5_ruleCount cX5_ruleCount 4 (some .int) ∈ pm_gw := pm_gw_of 675 (by decide +kernel) rfl
abbrev mX5_resultCount : pm_M := (yX5_resultCount, cX5_resultCount, 3, (some .int))
theorem co_X5_resultCount : Cond.code yX5_resultCount cX5_resultCount 3 (some .int) ∈ pm_gw := pm_gw_of 679 (by decide +kernel) rfl
abbrev mX5_failureCount : pm_M := (yX5_failureCount, cX5_failureCount, 3, (some .int))
theorem co_X5_failureCount : Cond.code yX5_failureCount cX5_failureCount 3 (some .int) ∈ pm_gw := pm_gw_of 683 (by decide +kernel) rfl
abbrev mX5_traceCount : pm_M := (yX5_traceCount, cX5_traceCount, 4, (some .int))
theorem co_X5_traceCount : Cond.code yX5_traceCount cX5_traceCount 4 (some .int) ∈ pm_gw := pm_gw_of 687 (by decide +kernel) rfl
abbrev mX6_list : pm_M := (yX6_list, cX6_list, 4, (some .int))
theorem co_X6_list : Cond.code yX6_list cX6_list 4 (some .int) ∈ pm_gw := pm_gw_of 691 (by decide +kernel) rfl
abbrev mX6_rowOf : pm_M := (yX6_rowOf, cX6_rowOf, 2, (some (.object "BuildEngine$Row")))
theorem co_X6_rowOf : Cond.code yX6_rowOf cX6_rowOf 2 (some (.object "BuildEngine$Row")) ∈ pm_gw := pm_gw_of 695 (by decide +kernel) rfl
abbrev mX2_hold : pm_M := (yX2_hold, cX2_hold, 2, none)
theorem co_X2_hold : Cond.code yX2_hold cX2_hold 2 none ∈ pm_gw := pm_gw_of 699 (by decide +kernel) rfl
abbrev mJ7_fill_d0a16 : pm_M := (yJ7_fill_d0a16, cJ7_fill_d0a16, 5, none)
theorem co_J7_fill_d0a16 : Cond.code yJ7_fill_d0a16 cJ7_fill_d0a16 5 none ∈ pm_gw := pm_gw_of 704 (by decide +kernel) rfl
abbrev mX6_put : pm_M := (yX6_put, cX6_put, 6, (some .int))
theorem co_X6_put : Cond.code yX6_put cX6_put 6 (some .int) ∈ pm_gw := pm_gw_of 708 (by decide +kernel) rfl
abbrev mX2_write : pm_M := (yX2_write, cX2_write, 4, (some .boolean))
theorem co_X2_write : Cond.code yX2_write cX2_write 4 (some .boolean) ∈ pm_gw := pm_gw_of 712 (by decide +kernel) rfl
abbrev mX2_hasPlace : pm_M := (yX2_hasPlace, cX2_hasPlace, 2, (some .boolean))
theorem co_X2_hasPlace : Cond.code yX2_hasPlace cX2_hasPlace 2 (some .boolean) ∈ pm_gw := pm_gw_of 716 (by decide +kernel) rfl
abbrev mX6_get : pm_M := (yX6_get, cX6_get, 4, (some .long))
theorem co_X6_get : Cond.code yX6_get cX6_get 4 (some .long) ∈ pm_gw := pm_gw_of 720 (by decide +kernel) rfl
abbrev mX2_read : pm_M := (yX2_read, cX2_read, 2, (some .long))
theorem co_X2_read : Cond.code yX2_read cX2_read 2 (some .long) ∈ pm_gw := pm_gw_of 725 (by decide +kernel) rfl
abbrev mX6_move : pm_M := (yX6_move, cX6_move, 8, (some .int))
theorem co_X6_move : Cond.code yX6_move cX6_move 8 (some .int) ∈ pm_gw := pm_gw_of 730 (by decide +kernel) rfl
abbrev mX2_hasSpan : pm_M := (yX2_hasSpan, cX2_hasSpan, 3, (some .boolean))
theorem co_X2_hasSpan : Cond.code yX2_hasSpan cX2_hasSpan 3 (some .boolean) ∈ pm_gw := pm_gw_of 734 (by decide +kernel) rfl
abbrev mX6_lay : pm_M := (yX6_lay, cX6_lay, 5, (some .int))
theorem co_X6_lay : Cond.code yX6_lay cX6_lay 5 (some .int) ∈ pm_gw := pm_gw_of 739 (by decide +kernel) rfl
abbrev mX6_judge : pm_M := (yX6_judge, cX6_judge, 5, (some .int))
theorem co_X6_judge : Cond.code yX6_judge cX6_judge 5 (some .int) ∈ pm_gw := pm_gw_of 743 (by decide +kernel) rfl
abbrev mX6_image : pm_M := (yX6_image, cX6_image, 1, (some .int))
theorem co_X6_image : Cond.code yX6_image cX6_image 1 (some .int) ∈ pm_gw := pm_gw_of 748 (by decide +kernel) rfl
abbrev mX6_undo : pm_M := (yX6_undo, cX6_undo, 1, (some .int))
theorem co_X6_undo : Cond.code yX6_undo cX6_undo 1 (some .int) ∈ pm_gw := pm_gw_of 752 (by decide +kernel) rfl
abbrev mX7_init : pm_M := (yX7_init, cX7_init, 2, none)
theorem co_X7_init : Cond.code yX7_init cX7_init 2 none ∈ pm_gw := pm_gw_of 758 (by decide +kernel) rfl
abbrev mX7_give : pm_M := (yX7_give, cX7_give, 4, (some .int))
theorem co_X7_give : Cond.code yX7_give cX7_give 4 (some .int) ∈ pm_gw := pm_gw_of 852 (by decide +kernel) rfl
abbrev mX7_isInput : pm_M := (yX7_isInput, cX7_isInput, 1, (some .boolean))
theorem co_X7_isInput : Cond.code yX7_isInput cX7_isInput 1 (some .boolean) ∈ pm_gw := pm_gw_of 855 (by decide +kernel) rfl
abbrev mX7_isIn : pm_M := (yX7_isIn, cX7_isIn, 6, (some .boolean))
theorem co_X7_isIn : Cond.code yX7_isIn cX7_isIn 6 (some .boolean) ∈ pm_gw := pm_gw_of 859 (by decide +kernel) rfl
abbrev mX7_numberResult : pm_M := (yX7_numberResult, cX7_numberResult, 1, (some .int))
theorem co_X7_numberResult : Cond.code yX7_numberResult cX7_numberResult 1 (some .int) ∈ pm_gw := pm_gw_of 864 (by decide +kernel) rfl
abbrev mX7_take : pm_M := (yX7_take, cX7_take, 3, (some .int))
theorem co_X7_take : Cond.code yX7_take cX7_take 3 (some .int) ∈ pm_gw := pm_gw_of 869 (by decide +kernel) rfl
abbrev mX7_numberOf : pm_M := (yX7_numberOf, cX7_numberOf, 1, (some .int))
theorem co_X7_numberOf : Cond.code yX7_numberOf cX7_numberOf 1 (some .int) ∈ pm_gw := pm_gw_of 872 (by decide +kernel) rfl
abbrev mX7_feed : pm_M := (yX7_feed, cX7_feed, 2, (some .int))
theorem co_X7_feed : Cond.code yX7_feed cX7_feed 2 (some .int) ∈ pm_gw := pm_gw_of 876 (by decide +kernel) rfl
abbrev mX7_clear : pm_M := (yX7_clear, cX7_clear, 2, (some .int))
theorem co_X7_clear : Cond.code yX7_clear cX7_clear 2 (some .int) ∈ pm_gw := pm_gw_of 881 (by decide +kernel) rfl
abbrev mX7_rule : pm_M := (yX7_rule, cX7_rule, 6, (some .int))
theorem co_X7_rule : Cond.code yX7_rule cX7_rule 6 (some .int) ∈ pm_gw := pm_gw_of 885 (by decide +kernel) rfl
abbrev mX7_isTarget : pm_M := (yX7_isTarget, cX7_isTarget, 1, (some .boolean))
theorem co_X7_isTarget : Cond.code yX7_isTarget cX7_isTarget 1 (some .boolean) ∈ pm_gw := pm_gw_of 888 (by decide +kernel) rfl
abbrev mX7_fault : pm_M := (yX7_fault, cX7_fault, 4, (some .int))
theorem co_X7_fault : Cond.code yX7_fault cX7_fault 4 (some .int) ∈ pm_gw := pm_gw_of 894 (by decide +kernel) rfl
abbrev mX7_isSign : pm_M := (yX7_isSign, cX7_isSign, 1, (some .boolean))
theorem co_X7_isSign : Cond.code yX7_isSign cX7_isSign 1 (some .boolean) ∈ pm_gw := pm_gw_of 897 (by decide +kernel) rfl
abbrev mX7_isAsking : pm_M := (yX7_isAsking, cX7_isAsking, 1, (some .boolean))
theorem co_X7_isAsking : Cond.code yX7_isAsking cX7_isAsking 1 (some .boolean) ∈ pm_gw := pm_gw_of 900 (by decide +kernel) rfl
abbrev mX7_isFigure : pm_M := (yX7_isFigure, cX7_isFigure, 2, (some .boolean))
theorem co_X7_isFigure : Cond.code yX7_isFigure cX7_isFigure 2 (some .boolean) ∈ pm_gw := pm_gw_of 904 (by decide +kernel) rfl
abbrev mX7_traceAt : pm_M := (yX7_traceAt, cX7_traceAt, 2, (some .int))
theorem co_X7_traceAt : Cond.code yX7_traceAt cX7_traceAt 2 (some .int) ∈ pm_gw := pm_gw_of 910 (by decide +kernel) rfl
abbrev mX7_drop : pm_M := (yX7_drop, cX7_drop, 3, (some .int))
theorem co_X7_drop : Cond.code yX7_drop cX7_drop 3 (some .int) ∈ pm_gw := pm_gw_of 914 (by decide +kernel) rfl
abbrev mX7_ruled : pm_M := (yX7_ruled, cX7_ruled, 3, (some .int))
theorem co_X7_ruled : Cond.code yX7_ruled cX7_ruled 3 (some .int) ∈ pm_gw := pm_gw_of 918 (by decide +kernel) rfl
abbrev mX7_copy : pm_M := (yX7_copy, cX7_copy, 4, (some .int))
theorem co_X7_copy : Cond.code yX7_copy cX7_copy 4 (some .int) ∈ pm_gw := pm_gw_of 922 (by decide +kernel) rfl
abbrev mX7_step : pm_M := (yX7_step, cX7_step, 4, (some .int))
theorem co_X7_step : Cond.code yX7_step cX7_step 4 (some .int) ∈ pm_gw := pm_gw_of 926 (by decide +kernel) rfl
abbrev mX7_build : pm_M := (yX7_build, cX7_build, 3, (some .int))
theorem co_X7_build : Cond.code yX7_build cX7_build 3 (some .int) ∈ pm_gw := pm_gw_of 930 (by decide +kernel) rfl
abbrev mX7_built : pm_M := (yX7_built, cX7_built, 5, (some .int))
theorem co_X7_built : Cond.code yX7_built cX7_built 5 (some .int) ∈ pm_gw := pm_gw_of 934 (by decide +kernel) rfl
abbrev mX7_builds : pm_M := (yX7_builds, cX7_builds, 4, none)
theorem co_X7_builds : Cond.code yX7_builds cX7_builds 4 none ∈ pm_gw := pm_gw_of 938 (by decide +kernel) rfl
abbrev mX7_fails : pm_M := (yX7_fails, cX7_fails, 6, (some .int))
theorem co_X7_fails : Cond.code yX7_fails cX7_fails 6 (some .int) ∈ pm_gw := pm_gw_of 942 (by decide +kernel) rfl
abbrev mX7_traced : pm_M := (yX7_traced, cX7_traced, 2, (some .int))
theorem co_X7_traced : Cond.code yX7_traced cX7_traced 2 (some .int) ∈ pm_gw := pm_gw_of 946 (by decide +kernel) rfl
abbrev mX7_isAsSeen : pm_M := (yX7_isAsSeen, cX7_isAsSeen, 6, (some .boolean))
theorem co_X7_isAsSeen : Cond.code yX7_isAsSeen cX7_isAsSeen 6 (some .boolean) ∈ pm_gw := pm_gw_of 950 (by decide +kernel) rfl
abbrev mX7_isDone : pm_M := (yX7_isDone, cX7_isDone, 2, (some .boolean))
theorem co_X7_isDone : Cond.code yX7_isDone cX7_isDone 2 (some .boolean) ∈ pm_gw := pm_gw_of 954 (by decide +kernel) rfl
abbrev mX7_has : pm_M := (yX7_has, cX7_has, 2, (some .int))
theorem co_X7_has : Cond.code yX7_has cX7_has 2 (some .int) ∈ pm_gw := pm_gw_of 958 (by decide +kernel) rfl
abbrev mX7_runs : pm_M := (yX7_runs, cX7_runs, 6, (some .int))
theorem co_X7_runs : Cond.code yX7_runs cX7_runs 6 (some .int) ∈ pm_gw := pm_gw_of 962 (by decide +kernel) rfl
abbrev mX7_goes : pm_M := (yX7_goes, cX7_goes, 11, (some .int))
theorem co_X7_goes : Cond.code yX7_goes cX7_goes 11 (some .int) ∈ pm_gw := pm_gw_of 966 (by decide +kernel) rfl
abbrev mX7_notes : pm_M := (yX7_notes, cX7_notes, 5, none)
theorem co_X7_notes : Cond.code yX7_notes cX7_notes 5 none ∈ pm_gw := pm_gw_of 970 (by decide +kernel) rfl
abbrev mX7_isFailure : pm_M := (yX7_isFailure, cX7_isFailure, 1, (some .boolean))
theorem co_X7_isFailure : Cond.code yX7_isFailure cX7_isFailure 1 (some .boolean) ∈ pm_gw := pm_gw_of 973 (by decide +kernel) rfl
abbrev mX7_isOfRing : pm_M := (yX7_isOfRing, cX7_isOfRing, 4, (some .boolean))
theorem co_X7_isOfRing : Cond.code yX7_isOfRing cX7_isOfRing 4 (some .boolean) ∈ pm_gw := pm_gw_of 977 (by decide +kernel) rfl
abbrev mX7_finishes : pm_M := (yX7_finishes, cX7_finishes, 2, none)
theorem co_X7_finishes : Cond.code yX7_finishes cX7_finishes 2 none ∈ pm_gw := pm_gw_of 981 (by decide +kernel) rfl
abbrev mX7_manyDone : pm_M := (yX7_manyDone, cX7_manyDone, 3, (some .int))
theorem co_X7_manyDone : Cond.code yX7_manyDone cX7_manyDone 3 (some .int) ∈ pm_gw := pm_gw_of 985 (by decide +kernel) rfl
abbrev mX7_all : pm_M := (yX7_all, cX7_all, 2, (some .int))
theorem co_X7_all : Cond.code yX7_all cX7_all 2 (some .int) ∈ pm_gw := pm_gw_of 989 (by decide +kernel) rfl
abbrev mX7_some : pm_M := (yX7_some, cX7_some, 3, (some .int))
theorem co_X7_some : Cond.code yX7_some cX7_some 3 (some .int) ∈ pm_gw := pm_gw_of 994 (by decide +kernel) rfl
abbrev mX7_tried : pm_M := (yX7_tried, cX7_tried, 12, (some .int))
theorem co_X7_tried : Cond.code yX7_tried cX7_tried 12 (some .int) ∈ pm_gw := pm_gw_of 999 (by decide +kernel) rfl
abbrev mX7_pours : pm_M := (yX7_pours, cX7_pours, 3, none)
theorem co_X7_pours : Cond.code yX7_pours cX7_pours 3 none ∈ pm_gw := pm_gw_of 1002 (by decide +kernel) rfl
abbrev mX7_result : pm_M := (yX7_result, cX7_result, 2, (some .int))
theorem co_X7_result : Cond.code yX7_result cX7_result 2 (some .int) ∈ pm_gw := pm_gw_of 1006 (by decide +kernel) rfl
abbrev mX7_isKey : pm_M := (yX7_isKey, cX7_isKey, 1, (some .boolean))
theorem co_X7_isKey : Cond.code yX7_isKey cX7_isKey 1 (some .boolean) ∈ pm_gw := pm_gw_of 1009 (by decide +kernel) rfl
abbrev mX7_toldOf : pm_M := (yX7_toldOf, cX7_toldOf, 2, (some .int))
theorem co_X7_toldOf : Cond.code yX7_toldOf cX7_toldOf 2 (some .int) ∈ pm_gw := pm_gw_of 1013 (by decide +kernel) rfl
abbrev mX7_failure : pm_M := (yX7_failure, cX7_failure, 5, (some .int))
theorem co_X7_failure : Cond.code yX7_failure cX7_failure 5 (some .int) ∈ pm_gw := pm_gw_of 1018 (by decide +kernel) rfl
abbrev mX7_causeOf : pm_M := (yX7_causeOf, cX7_causeOf, 5, (some .int))
theorem co_X7_causeOf : Cond.code yX7_causeOf cX7_causeOf 5 (some .int) ∈ pm_gw := pm_gw_of 1023 (by decide +kernel) rfl
abbrev mX7_causes : pm_M := (yX7_causes, cX7_causes, 4, (some .int))
theorem co_X7_causes : Cond.code yX7_causes cX7_causes 4 (some .int) ∈ pm_gw := pm_gw_of 1027 (by decide +kernel) rfl
abbrev mX7_root : pm_M := (yX7_root, cX7_root, 4, (some .int))
theorem co_X7_root : Cond.code yX7_root cX7_root 4 (some .int) ∈ pm_gw := pm_gw_of 1031 (by decide +kernel) rfl
abbrev mX7_blamed : pm_M := (yX7_blamed, cX7_blamed, 5, (some .int))
theorem co_X7_blamed : Cond.code yX7_blamed cX7_blamed 5 (some .int) ∈ pm_gw := pm_gw_of 1035 (by decide +kernel) rfl
abbrev mX7_trace : pm_M := (yX7_trace, cX7_trace, 4, (some .int))
theorem co_X7_trace : Cond.code yX7_trace cX7_trace 4 (some .int) ∈ pm_gw := pm_gw_of 1039 (by decide +kernel) rfl
abbrev mX7_amiss : pm_M := (yX7_amiss, cX7_amiss, 3, (some .int))
theorem co_X7_amiss : Cond.code yX7_amiss cX7_amiss 3 (some .int) ∈ pm_gw := pm_gw_of 1043 (by decide +kernel) rfl
abbrev mX7_seen : pm_M := (yX7_seen, cX7_seen, 4, (some .int))
theorem co_X7_seen : Cond.code yX7_seen cX7_seen 4 (some .int) ∈ pm_gw := pm_gw_of 1047 (by decide +kernel) rfl
abbrev mX7_users : pm_M := (yX7_users, cX7_users, 4, (some .int))
theorem co_X7_users : Cond.code yX7_users cX7_users 4 (some .int) ∈ pm_gw := pm_gw_of 1051 (by decide +kernel) rfl
abbrev mX7_isTraced : pm_M := (yX7_isTraced, cX7_isTraced, 5, (some .boolean))
theorem co_X7_isTraced : Cond.code yX7_isTraced cX7_isTraced 5 (some .boolean) ∈ pm_gw := pm_gw_of 1055 (by decide +kernel) rfl
abbrev mX7_depth : pm_M := (yX7_depth, cX7_depth, 6, (some .int))
theorem co_X7_depth : Cond.code yX7_depth cX7_depth 6 (some .int) ∈ pm_gw := pm_gw_of 1059 (by decide +kernel) rfl
abbrev mX7_order : pm_M := (yX7_order, cX7_order, 2, (some .int))
theorem co_X7_order : Cond.code yX7_order cX7_order 2 (some .int) ∈ pm_gw := pm_gw_of 1064 (by decide +kernel) rfl
abbrev mX7_unlike : pm_M := (yX7_unlike, cX7_unlike, 6, (some .int))
theorem co_X7_unlike : Cond.code yX7_unlike cX7_unlike 6 (some .int) ∈ pm_gw := pm_gw_of 1068 (by decide +kernel) rfl
abbrev mX7_fresh : pm_M := (yX7_fresh, cX7_fresh, 6, (some .int))
theorem co_X7_fresh : Cond.code yX7_fresh cX7_fresh 6 (some .int) ∈ pm_gw := pm_gw_of 1072 (by decide +kernel) rfl
abbrev mX7_forget : pm_M := (yX7_forget, cX7_forget, 3, (some .int))
theorem co_X7_forget : Cond.code yX7_forget cX7_forget 3 (some .int) ∈ pm_gw := pm_gw_of 1076 (by decide +kernel) rfl
abbrev mX7_told : pm_M := (yX7_told, cX7_told, 2, (some .int))
theorem co_X7_told : Cond.code yX7_told cX7_told 2 (some .int) ∈ pm_gw := pm_gw_of 1080 (by decide +kernel) rfl
abbrev mX7_having : pm_M := (yX7_having, cX7_having, 5, (some .int))
theorem co_X7_having : Cond.code yX7_having cX7_having 5 (some .int) ∈ pm_gw := pm_gw_of 1084 (by decide +kernel) rfl
abbrev mX7_list : pm_M := (yX7_list, cX7_list, 4, (some .int))
theorem co_X7_list : Cond.code yX7_list cX7_list 4 (some .int) ∈ pm_gw := pm_gw_of 1088 (by decide +kernel) rfl
abbrev mX7_isList : pm_M := (yX7_isList, cX7_isList, 1, (some .boolean))
theorem co_X7_isList : Cond.code yX7_isList cX7_isList 1 (some .boolean) ∈ pm_gw := pm_gw_of 1091 (by decide +kernel) rfl
abbrev mX7_put : pm_M := (yX7_put, cX7_put, 5, (some .int))
theorem co_X7_put : Cond.code yX7_put cX7_put 5 (some .int) ∈ pm_gw := pm_gw_of 1096 (by decide +kernel) rfl
abbrev mX7_get : pm_M := (yX7_get, cX7_get, 3, (some .long))
theorem co_X7_get : Cond.code yX7_get cX7_get 3 (some .long) ∈ pm_gw := pm_gw_of 1100 (by decide +kernel) rfl
abbrev mX7_move : pm_M := (yX7_move, cX7_move, 7, (some .int))
theorem co_X7_move : Cond.code yX7_move cX7_move 7 (some .int) ∈ pm_gw := pm_gw_of 1105 (by decide +kernel) rfl
abbrev mX7_lay : pm_M := (yX7_lay, cX7_lay, 4, (some .int))
theorem co_X7_lay : Cond.code yX7_lay cX7_lay 4 (some .int) ∈ pm_gw := pm_gw_of 1109 (by decide +kernel) rfl
abbrev mX7_judge : pm_M := (yX7_judge, cX7_judge, 4, (some .int))
theorem co_X7_judge : Cond.code yX7_judge cX7_judge 4 (some .int) ∈ pm_gw := pm_gw_of 1113 (by decide +kernel) rfl
abbrev mX7_image : pm_M := (yX7_image, cX7_image, 1, (some .int))
theorem co_X7_image : Cond.code yX7_image cX7_image 1 (some .int) ∈ pm_gw := pm_gw_of 1117 (by decide +kernel) rfl
abbrev mX7_undo : pm_M := (yX7_undo, cX7_undo, 2, (some .int))
theorem co_X7_undo : Cond.code yX7_undo cX7_undo 2 (some .int) ∈ pm_gw := pm_gw_of 1121 (by decide +kernel) rfl
theorem ini_RL : Cond.initialized RL ∈ pm_gw := pm_gw_of 35 (by decide +kernel) rfl
theorem ini_RX6 : Cond.initialized RX6 ∈ pm_gw := pm_gw_of 36 (by decide +kernel) rfl
theorem ini_RX0 : Cond.initialized RX0 ∈ pm_gw := pm_gw_of 37 (by decide +kernel) rfl
theorem ini_RX5 : Cond.initialized RX5 ∈ pm_gw := pm_gw_of 38 (by decide +kernel) rfl
theorem ini_RX4 : Cond.initialized RX4 ∈ pm_gw := pm_gw_of 39 (by decide +kernel) rfl
theorem ini_RX1 : Cond.initialized RX1 ∈ pm_gw := pm_gw_of 40 (by decide +kernel) rfl
theorem ini_RX3 : Cond.initialized RX3 ∈ pm_gw := pm_gw_of 41 (by decide +kernel) rfl
theorem ini_RX2 : Cond.initialized RX2 ∈ pm_gw := pm_gw_of 42 (by decide +kernel) rfl
theorem ini_RX7 : Cond.initialized RX7 ∈ pm_gw := pm_gw_of 43 (by decide +kernel) rfl
theorem ini_RJ9 : Cond.initialized RJ9 ∈ pm_gw := pm_gw_of 44 (by decide +kernel) rfl
theorem ini_RJ10 : Cond.initialized RJ10 ∈ pm_gw := pm_gw_of 45 (by decide +kernel) rfl
theorem ini_RJ7 : Cond.initialized RJ7 ∈ pm_gw := pm_gw_of 46 (by decide +kernel) rfl
theorem mok_X6_init : pm_mok mX6_init 0 := ⟨co_X6_init, ini_RX6, ⟨by decide +kernel, by decide +kernel⟩, by decide +kernel, by decide⟩
theorem in_X6_init : Cond.instanceMethod yX6_init ∈ pm_gw := pm_gw_of 50 (by decide +kernel) rfl
theorem mok_X0_init : pm_mok mX0_init 0 := ⟨co_X0_init, ini_RX0, ⟨by decide +kernel, by decide +kernel⟩, by decide +kernel, by decide⟩
theorem in_X0_init : Cond.instanceMethod yX0_init ∈ pm_gw := pm_gw_of 58 (by decide +kernel) rfl
theorem mok_X5_init : pm_mok mX5_init 0 := ⟨co_X5_init, ini_RX5, ⟨by decide +kernel, by decide +kernel⟩, by decide +kernel, by decide⟩
theorem in_X5_init : Cond.instanceMethod yX5_init ∈ pm_gw := pm_gw_of 64 (by decide +kernel) rfl
theorem mok_X4_init : pm_mok mX4_init 0 := ⟨co_X4_init, ini_RX4, ⟨by decide +kernel, by decide +kernel⟩, by decide +kernel, by decide⟩
theorem in_X4_init : Cond.instanceMethod yX4_init ∈ pm_gw := pm_gw_of 73 (by decide +kernel) rfl
theorem mok_X1_ofFailure : pm_mok mX1_ofFailure 4 := ⟨co_X1_ofFailure, ini_RX1, ⟨by decide +kernel, by decide +kernel⟩, by decide +kernel, by decide⟩
theorem st_X1_ofFailure : Cond.static yX1_ofFailure ∈ pm_gw := pm_gw_of 110 (by decide +kernel) rfl
theorem mok_X1_init : pm_mok mX1_init 5 := ⟨co_X1_init, ini_RX1, ⟨by decide +kernel, by decide +kernel⟩, by decide +kernel, by decide⟩
theorem in_X1_init : Cond.instanceMethod yX1_init ∈ pm_gw := pm_gw_of 115 (by decide +kernel) rfl
theorem mok_X3_init : pm_mok mX3_init 0 := ⟨co_X3_init, ini_RX3, ⟨by decide +kernel, by decide +kernel⟩, by decide +kernel, by decide⟩
theorem in_X3_init : Cond.instanceMethod yX3_init ∈ pm_gw := pm_gw_of 200 (by decide +kernel) rfl
theorem mok_X2_init : pm_mok mX2_init 0 := ⟨co_X2_init, ini_RX2, ⟨by decide +kernel, by decide +kernel⟩, by decide +kernel, by decide⟩
theorem in_X2_init : Cond.instanceMethod yX2_init ∈ pm_gw := pm_gw_of 216 (by decide +kernel) rfl
theorem mok_X6_give : pm_mok mX6_give 2 := ⟨co_X6_give, ini_RX6, ⟨by decide +kernel, by decide +kernel⟩, by decide +kernel, by decide⟩
theorem in_X6_give : Cond.instanceMethod yX6_give ∈ pm_gw := pm_gw_of 255 (by decide +kernel) rfl
theorem se_X6_give : Cond.selects RX6 yX6_give yX6_give ∈ pm_gw := pm_gw_of 256 (by decide +kernel) rfl
theorem mok_X6_isInput : pm_mok mX6_isInput 1 := ⟨co_X6_isInput, ini_RX6, ⟨by decide +kernel, by decide +kernel⟩, by decide +kernel, by decide⟩
theorem st_X6_isInput : Cond.static yX6_isInput ∈ pm_gw := pm_gw_of 259 (by decide +kernel) rfl
theorem mok_X6_isContent : pm_mok mX6_isContent 1 := ⟨co_X6_isContent, ini_RX6, ⟨by decide +kernel, by decide +kernel⟩, by decide +kernel, by decide⟩
theorem st_X6_isContent : Cond.static yX6_isContent ∈ pm_gw := pm_gw_of 262 (by decide +kernel) rfl
theorem mok_X5_giveContent : pm_mok mX5_giveContent 2 := ⟨co_X5_giveContent, ini_RX5, ⟨by decide +kernel, by decide +kernel⟩, by decide +kernel, by decide⟩
theorem in_X5_giveContent : Cond.instanceMethod yX5_giveContent ∈ pm_gw := pm_gw_of 267 (by decide +kernel) rfl
theorem se_X5_giveContent : Cond.selects RX5 yX5_giveContent yX5_giveContent ∈ pm_gw := pm_gw_of 268 (by decide +kernel) rfl
theorem mok_X5_contentOf : pm_mok mX5_contentOf 1 := ⟨co_X5_contentOf, ini_RX5, ⟨by decide +kernel, by decide +kernel⟩, by decide +kernel, by decide⟩
theorem in_X5_contentOf : Cond.instanceMethod yX5_contentOf ∈ pm_gw := pm_gw_of 271 (by decide +kernel) rfl
theorem se_X5_contentOf : Cond.selects RX5 yX5_contentOf yX5_contentOf ∈ pm_gw := pm_gw_of 272 (by decide +kernel) rfl
theorem mok_X1_ofContent : pm_mok mX1_ofContent 1 := ⟨co_X1_ofContent, ini_RX1, ⟨by decide +kernel, by decide +kernel⟩, by decide +kernel, by decide⟩
theorem st_X1_ofContent : Cond.static yX1_ofContent ∈ pm_gw := pm_gw_of 276 (by decide +kernel) rfl
theorem mok_X6_take : pm_mok mX6_take 1 := ⟨co_X6_take, ini_RX6, ⟨by decide +kernel, by decide +kernel⟩, by decide +kernel, by decide⟩
theorem in_X6_take : Cond.instanceMethod yX6_take ∈ pm_gw := pm_gw_of 279 (by decide +kernel) rfl
theorem se_X6_take : Cond.selects RX6 yX6_take yX6_take ∈ pm_gw := pm_gw_of 280 (by decide +kernel) rfl
theorem mok_X5_takeContent : pm_mok mX5_takeContent 1 := ⟨co_X5_takeContent, ini_RX5, ⟨by decide +kernel, by decide +kernel⟩, by decide +kernel, by decide⟩
theorem in_X5_takeContent : Cond.instanceMethod yX5_takeContent ∈ pm_gw := pm_gw_of 284 (by decide +kernel) rfl
theorem se_X5_takeContent : Cond.selects RX5 yX5_takeContent yX5_takeContent ∈ pm_gw := pm_gw_of 285 (by decide +kernel) rfl
theorem mok_X6_feed : pm_mok mX6_feed 1 := ⟨co_X6_feed, ini_RX6, ⟨by decide +kernel, by decide +kernel⟩, by decide +kernel, by decide⟩
theorem in_X6_feed : Cond.instanceMethod yX6_feed ∈ pm_gw := pm_gw_of 288 (by decide +kernel) rfl
theorem se_X6_feed : Cond.selects RX6 yX6_feed yX6_feed ∈ pm_gw := pm_gw_of 289 (by decide +kernel) rfl
theorem mok_X3_append : pm_mok mX3_append 1 := ⟨co_X3_append, ini_RX3, ⟨by decide +kernel, by decide +kernel⟩, by decide +kernel, by decide⟩
theorem in_X3_append : Cond.instanceMethod yX3_append ∈ pm_gw := pm_gw_of 292 (by decide +kernel) rfl
theorem se_X3_append : Cond.selects RX3 yX3_append yX3_append ∈ pm_gw := pm_gw_of 293 (by decide +kernel) rfl
theorem mok_X6_clear : pm_mok mX6_clear 0 := ⟨co_X6_clear, ini_RX6, ⟨by decide +kernel, by decide +kernel⟩, by decide +kernel, by decide⟩
theorem in_X6_clear : Cond.instanceMethod yX6_clear ∈ pm_gw := pm_gw_of 296 (by decide +kernel) rfl
theorem se_X6_clear : Cond.selects RX6 yX6_clear yX6_clear ∈ pm_gw := pm_gw_of 297 (by decide +kernel) rfl
theorem mok_X3_empty : pm_mok mX3_empty 0 := ⟨co_X3_empty, ini_RX3, ⟨by decide +kernel, by decide +kernel⟩, by decide +kernel, by decide⟩
theorem in_X3_empty : Cond.instanceMethod yX3_empty ∈ pm_gw := pm_gw_of 300 (by decide +kernel) rfl
theorem se_X3_empty : Cond.selects RX3 yX3_empty yX3_empty ∈ pm_gw := pm_gw_of 301 (by decide +kernel) rfl
theorem mok_X6_rule : pm_mok mX6_rule 1 := ⟨co_X6_rule, ini_RX6, ⟨by decide +kernel, by decide +kernel⟩, by decide +kernel, by decide⟩
theorem in_X6_rule : Cond.instanceMethod yX6_rule ∈ pm_gw := pm_gw_of 304 (by decide +kernel) rfl
theorem se_X6_rule : Cond.selects RX6 yX6_rule yX6_rule ∈ pm_gw := pm_gw_of 305 (by decide +kernel) rfl
theorem mok_X5_targetOf : pm_mok mX5_targetOf 1 := ⟨co_X5_targetOf, ini_RX5, ⟨by decide +kernel, by decide +kernel⟩, by decide +kernel, by decide⟩
theorem in_X5_targetOf : Cond.instanceMethod yX5_targetOf ∈ pm_gw := pm_gw_of 308 (by decide +kernel) rfl
theorem se_X5_targetOf : Cond.selects RX5 yX5_targetOf yX5_targetOf ∈ pm_gw := pm_gw_of 309 (by decide +kernel) rfl
theorem mok_X6_isTarget : pm_mok mX6_isTarget 1 := ⟨co_X6_isTarget, ini_RX6, ⟨by decide +kernel, by decide +kernel⟩, by decide +kernel, by decide⟩
theorem st_X6_isTarget : Cond.static yX6_isTarget ∈ pm_gw := pm_gw_of 312 (by decide +kernel) rfl
theorem mok_X3_faultAsRule : pm_mok mX3_faultAsRule 0 := ⟨co_X3_faultAsRule, ini_RX3, ⟨by decide +kernel, by decide +kernel⟩, by decide +kernel, by decide⟩
theorem in_X3_faultAsRule : Cond.instanceMethod yX3_faultAsRule ∈ pm_gw := pm_gw_of 315 (by decide +kernel) rfl
theorem se_X3_faultAsRule : Cond.selects RX3 yX3_faultAsRule yX3_faultAsRule ∈ pm_gw := pm_gw_of 316 (by decide +kernel) rfl
theorem mok_X3_letterAt : pm_mok mX3_letterAt 1 := ⟨co_X3_letterAt, ini_RX3, ⟨by decide +kernel, by decide +kernel⟩, by decide +kernel, by decide⟩
theorem in_X3_letterAt : Cond.instanceMethod yX3_letterAt ∈ pm_gw := pm_gw_of 319 (by decide +kernel) rfl
theorem se_X3_letterAt : Cond.selects RX3 yX3_letterAt yX3_letterAt ∈ pm_gw := pm_gw_of 320 (by decide +kernel) rfl
theorem mok_X6_isSign : pm_mok mX6_isSign 1 := ⟨co_X6_isSign, ini_RX6, ⟨by decide +kernel, by decide +kernel⟩, by decide +kernel, by decide⟩
theorem st_X6_isSign : Cond.static yX6_isSign ∈ pm_gw := pm_gw_of 323 (by decide +kernel) rfl
theorem mok_X6_asksForKey : pm_mok mX6_asksForKey 1 := ⟨co_X6_asksForKey, ini_RX6, ⟨by decide +kernel, by decide +kernel⟩, by decide +kernel, by decide⟩
theorem st_X6_asksForKey : Cond.static yX6_asksForKey ∈ pm_gw := pm_gw_of 326 (by decide +kernel) rfl
theorem mok_X6_isFigure : pm_mok mX6_isFigure 1 := ⟨co_X6_isFigure, ini_RX6, ⟨by decide +kernel, by decide +kernel⟩, by decide +kernel, by decide⟩
theorem st_X6_isFigure : Cond.static yX6_isFigure ∈ pm_gw := pm_gw_of 329 (by decide +kernel) rfl
theorem mok_X3_tellsNoKey : pm_mok mX3_tellsNoKey 2 := ⟨co_X3_tellsNoKey, ini_RX3, ⟨by decide +kernel, by decide +kernel⟩, by decide +kernel, by decide⟩
theorem in_X3_tellsNoKey : Cond.instanceMethod yX3_tellsNoKey ∈ pm_gw := pm_gw_of 333 (by decide +kernel) rfl
theorem se_X3_tellsNoKey : Cond.selects RX3 yX3_tellsNoKey yX3_tellsNoKey ∈ pm_gw := pm_gw_of 0 (by decide +kernel) rfl
theorem mok_X3_numberAt : pm_mok mX3_numberAt 1 := ⟨co_X3_numberAt, ini_RX3, ⟨by decide +kernel, by decide +kernel⟩, by decide +kernel, by decide⟩
theorem in_X3_numberAt : Cond.instanceMethod yX3_numberAt ∈ pm_gw := pm_gw_of 336 (by decide +kernel) rfl
theorem se_X3_numberAt : Cond.selects RX3 yX3_numberAt yX3_numberAt ∈ pm_gw := pm_gw_of 337 (by decide +kernel) rfl
theorem mok_X6_isKey : pm_mok mX6_isKey 1 := ⟨co_X6_isKey, ini_RX6, ⟨by decide +kernel, by decide +kernel⟩, by decide +kernel, by decide⟩
theorem st_X6_isKey : Cond.static yX6_isKey ∈ pm_gw := pm_gw_of 341 (by decide +kernel) rfl
theorem mok_X4_readRule : pm_mok mX4_readRule 1 := ⟨co_X4_readRule, ini_RX4, ⟨by decide +kernel, by decide +kernel⟩, by decide +kernel, by decide⟩
theorem in_X4_readRule : Cond.instanceMethod yX4_readRule ∈ pm_gw := pm_gw_of 344 (by decide +kernel) rfl
theorem se_X4_readRule : Cond.selects RX4 yX4_readRule yX4_readRule ∈ pm_gw := pm_gw_of 345 (by decide +kernel) rfl
theorem mok_J9_min_7cf53 : pm_mok mJ9_min_7cf53 2 := ⟨co_J9_min_7cf53, ini_RJ9, ⟨by decide +kernel, by decide +kernel⟩, by decide +kernel, by decide⟩
theorem st_J9_min_7cf53 : Cond.static yJ9_min_7cf53 ∈ pm_gw := pm_gw_of 348 (by decide +kernel) rfl
theorem mok_X4_dropTrace : pm_mok mX4_dropTrace 0 := ⟨co_X4_dropTrace, ini_RX4, ⟨by decide +kernel, by decide +kernel⟩, by decide +kernel, by decide⟩
theorem in_X4_dropTrace : Cond.instanceMethod yX4_dropTrace ∈ pm_gw := pm_gw_of 353 (by decide +kernel) rfl
theorem se_X4_dropTrace : Cond.selects RX4 yX4_dropTrace yX4_dropTrace ∈ pm_gw := pm_gw_of 354 (by decide +kernel) rfl
theorem mok_X6_drop : pm_mok mX6_drop 1 := ⟨co_X6_drop, ini_RX6, ⟨by decide +kernel, by decide +kernel⟩, by decide +kernel, by decide⟩
theorem in_X6_drop : Cond.instanceMethod yX6_drop ∈ pm_gw := pm_gw_of 357 (by decide +kernel) rfl
theorem se_X6_drop : Cond.selects RX6 yX6_drop yX6_drop ∈ pm_gw := pm_gw_of 358 (by decide +kernel) rfl
theorem mok_X4_dropRule : pm_mok mX4_dropRule 0 := ⟨co_X4_dropRule, ini_RX4, ⟨by decide +kernel, by decide +kernel⟩, by decide +kernel, by decide⟩
theorem in_X4_dropRule : Cond.instanceMethod yX4_dropRule ∈ pm_gw := pm_gw_of 361 (by decide +kernel) rfl
theorem se_X4_dropRule : Cond.selects RX4 yX4_dropRule yX4_dropRule ∈ pm_gw := pm_gw_of 362 (by decide +kernel) rfl
theorem mok_X6_copy : pm_mok mX6_copy 2 := ⟨co_X6_copy, ini_RX6, ⟨by decide +kernel, by decide +kernel⟩, by decide +kernel, by decide⟩
theorem in_X6_copy : Cond.instanceMethod yX6_copy ∈ pm_gw := pm_gw_of 365 (by decide +kernel) rfl
theorem se_X6_copy : Cond.selects RX6 yX6_copy yX6_copy ∈ pm_gw := pm_gw_of 366 (by decide +kernel) rfl
theorem mok_X4_takeRule : pm_mok mX4_takeRule 1 := ⟨co_X4_takeRule, ini_RX4, ⟨by decide +kernel, by decide +kernel⟩, by decide +kernel, by decide⟩
theorem in_X4_takeRule : Cond.instanceMethod yX4_takeRule ∈ pm_gw := pm_gw_of 369 (by decide +kernel) rfl
theorem se_X4_takeRule : Cond.selects RX4 yX4_takeRule yX4_takeRule ∈ pm_gw := pm_gw_of 370 (by decide +kernel) rfl
theorem mok_X4_copyRule : pm_mok mX4_copyRule 1 := ⟨co_X4_copyRule, ini_RX4, ⟨by decide +kernel, by decide +kernel⟩, by decide +kernel, by decide⟩
theorem in_X4_copyRule : Cond.instanceMethod yX4_copyRule ∈ pm_gw := pm_gw_of 374 (by decide +kernel) rfl
theorem se_X4_copyRule : Cond.selects RX4 yX4_copyRule yX4_copyRule ∈ pm_gw := pm_gw_of 1 (by decide +kernel) rfl
theorem mok_X6_step : pm_mok mX6_step 2 := ⟨co_X6_step, ini_RX6, ⟨by decide +kernel, by decide +kernel⟩, by decide +kernel, by decide⟩
theorem in_X6_step : Cond.instanceMethod yX6_step ∈ pm_gw := pm_gw_of 380 (by decide +kernel) rfl
theorem se_X6_step : Cond.selects RX6 yX6_step yX6_step ∈ pm_gw := pm_gw_of 381 (by decide +kernel) rfl
theorem mok_X4_signAt : pm_mok mX4_signAt 1 := ⟨co_X4_signAt, ini_RX4, ⟨by decide +kernel, by decide +kernel⟩, by decide +kernel, by decide⟩
theorem in_X4_signAt : Cond.instanceMethod yX4_signAt ∈ pm_gw := pm_gw_of 384 (by decide +kernel) rfl
theorem se_X4_signAt : Cond.selects RX4 yX4_signAt yX4_signAt ∈ pm_gw := pm_gw_of 385 (by decide +kernel) rfl
theorem mok_X4_figuresAt : pm_mok mX4_figuresAt 1 := ⟨co_X4_figuresAt, ini_RX4, ⟨by decide +kernel, by decide +kernel⟩, by decide +kernel, by decide⟩
theorem in_X4_figuresAt : Cond.instanceMethod yX4_figuresAt ∈ pm_gw := pm_gw_of 388 (by decide +kernel) rfl
theorem se_X4_figuresAt : Cond.selects RX4 yX4_figuresAt yX4_figuresAt ∈ pm_gw := pm_gw_of 389 (by decide +kernel) rfl
theorem mok_X6_build : pm_mok mX6_build 1 := ⟨co_X6_build, ini_RX6, ⟨by decide +kernel, by decide +kernel⟩, by decide +kernel, by decide⟩
theorem in_X6_build : Cond.instanceMethod yX6_build ∈ pm_gw := pm_gw_of 392 (by decide +kernel) rfl
theorem se_X6_build : Cond.selects RX6 yX6_build yX6_build ∈ pm_gw := pm_gw_of 393 (by decide +kernel) rfl
theorem mok_X0_startsFor : pm_mok mX0_startsFor 1 := ⟨co_X0_startsFor, ini_RX0, ⟨by decide +kernel, by decide +kernel⟩, by decide +kernel, by decide⟩
theorem in_X0_startsFor : Cond.instanceMethod yX0_startsFor ∈ pm_gw := pm_gw_of 397 (by decide +kernel) rfl
theorem se_X0_startsFor : Cond.selects RX0 yX0_startsFor yX0_startsFor ∈ pm_gw := pm_gw_of 398 (by decide +kernel) rfl
theorem mok_X0_bitOf : pm_mok mX0_bitOf 1 := ⟨co_X0_bitOf, ini_RX0, ⟨by decide +kernel, by decide +kernel⟩, by decide +kernel, by decide⟩
theorem st_X0_bitOf : Cond.static yX0_bitOf ∈ pm_gw := pm_gw_of 401 (by decide +kernel) rfl
theorem mok_X0_buildEach : pm_mok mX0_buildEach 2 := ⟨co_X0_buildEach, ini_RX0, ⟨by decide +kernel, by decide +kernel⟩, by decide +kernel, by decide⟩
theorem in_X0_buildEach : Cond.instanceMethod yX0_buildEach ∈ pm_gw := pm_gw_of 405 (by decide +kernel) rfl
theorem se_X0_buildEach : Cond.selects RX0 yX0_buildEach yX0_buildEach ∈ pm_gw := pm_gw_of 406 (by decide +kernel) rfl
theorem mok_X0_forgetBuild : pm_mok mX0_forgetBuild 0 := ⟨co_X0_forgetBuild, ini_RX0, ⟨by decide +kernel, by decide +kernel⟩, by decide +kernel, by decide⟩
theorem in_X0_forgetBuild : Cond.instanceMethod yX0_forgetBuild ∈ pm_gw := pm_gw_of 409 (by decide +kernel) rfl
theorem se_X0_forgetBuild : Cond.selects RX0 yX0_forgetBuild yX0_forgetBuild ∈ pm_gw := pm_gw_of 410 (by decide +kernel) rfl
theorem mok_X0_isIn : pm_mok mX0_isIn 2 := ⟨co_X0_isIn, ini_RX0, ⟨by decide +kernel, by decide +kernel⟩, by decide +kernel, by decide⟩
theorem st_X0_isIn : Cond.static yX0_isIn ∈ pm_gw := pm_gw_of 413 (by decide +kernel) rfl
theorem mok_X0_buildTarget : pm_mok mX0_buildTarget 2 := ⟨co_X0_buildTarget, ini_RX0, ⟨by decide +kernel, by decide +kernel⟩, by decide +kernel, by decide⟩
theorem in_X0_buildTarget : Cond.instanceMethod yX0_buildTarget ∈ pm_gw := pm_gw_of 417 (by decide +kernel) rfl
theorem se_X0_buildTarget : Cond.selects RX0 yX0_buildTarget yX0_buildTarget ∈ pm_gw := pm_gw_of 2 (by decide +kernel) rfl
theorem mok_X5_emptyOf : pm_mok mX5_emptyOf 1 := ⟨co_X5_emptyOf, ini_RX5, ⟨by decide +kernel, by decide +kernel⟩, by decide +kernel, by decide⟩
theorem in_X5_emptyOf : Cond.instanceMethod yX5_emptyOf ∈ pm_gw := pm_gw_of 421 (by decide +kernel) rfl
theorem se_X5_emptyOf : Cond.selects RX5 yX5_emptyOf yX5_emptyOf ∈ pm_gw := pm_gw_of 422 (by decide +kernel) rfl
theorem mok_X0_isStillSame : pm_mok mX0_isStillSame 2 := ⟨co_X0_isStillSame, ini_RX0, ⟨by decide +kernel, by decide +kernel⟩, by decide +kernel, by decide⟩
theorem in_X0_isStillSame : Cond.instanceMethod yX0_isStillSame ∈ pm_gw := pm_gw_of 427 (by decide +kernel) rfl
theorem se_X0_isStillSame : Cond.selects RX0 yX0_isStillSame yX0_isStillSame ∈ pm_gw := pm_gw_of 3 (by decide +kernel) rfl
theorem mok_X4_hasTrace : pm_mok mX4_hasTrace 0 := ⟨co_X4_hasTrace, ini_RX4, ⟨by decide +kernel, by decide +kernel⟩, by decide +kernel, by decide⟩
theorem in_X4_hasTrace : Cond.instanceMethod yX4_hasTrace ∈ pm_gw := pm_gw_of 430 (by decide +kernel) rfl
theorem se_X4_hasTrace : Cond.selects RX4 yX4_hasTrace yX4_hasTrace ∈ pm_gw := pm_gw_of 431 (by decide +kernel) rfl
theorem mok_X4_tracedKey : pm_mok mX4_tracedKey 1 := ⟨co_X4_tracedKey, ini_RX4, ⟨by decide +kernel, by decide +kernel⟩, by decide +kernel, by decide⟩
theorem in_X4_tracedKey : Cond.instanceMethod yX4_tracedKey ∈ pm_gw := pm_gw_of 434 (by decide +kernel) rfl
theorem se_X4_tracedKey : Cond.selects RX4 yX4_tracedKey yX4_tracedKey ∈ pm_gw := pm_gw_of 435 (by decide +kernel) rfl
theorem mok_X5_resultOf : pm_mok mX5_resultOf 1 := ⟨co_X5_resultOf, ini_RX5, ⟨by decide +kernel, by decide +kernel⟩, by decide +kernel, by decide⟩
theorem in_X5_resultOf : Cond.instanceMethod yX5_resultOf ∈ pm_gw := pm_gw_of 438 (by decide +kernel) rfl
theorem se_X5_resultOf : Cond.selects RX5 yX5_resultOf yX5_resultOf ∈ pm_gw := pm_gw_of 439 (by decide +kernel) rfl
theorem mok_X4_tracedResult : pm_mok mX4_tracedResult 1 := ⟨co_X4_tracedResult, ini_RX4, ⟨by decide +kernel, by decide +kernel⟩, by decide +kernel, by decide⟩
theorem in_X4_tracedResult : Cond.instanceMethod yX4_tracedResult ∈ pm_gw := pm_gw_of 444 (by decide +kernel) rfl
theorem se_X4_tracedResult : Cond.selects RX4 yX4_tracedResult yX4_tracedResult ∈ pm_gw := pm_gw_of 445 (by decide +kernel) rfl
theorem mok_X1_areSame : pm_mok mX1_areSame 2 := ⟨co_X1_areSame, ini_RX1, ⟨by decide +kernel, by decide +kernel⟩, by decide +kernel, by decide⟩
theorem st_X1_areSame : Cond.static yX1_areSame ∈ pm_gw := pm_gw_of 448 (by decide +kernel) rfl
theorem mok_X0_runToEnd : pm_mok mX0_runToEnd 3 := ⟨co_X0_runToEnd, ini_RX0, ⟨by decide +kernel, by decide +kernel⟩, by decide +kernel, by decide⟩
theorem in_X0_runToEnd : Cond.instanceMethod yX0_runToEnd ∈ pm_gw := pm_gw_of 452 (by decide +kernel) rfl
theorem se_X0_runToEnd : Cond.selects RX0 yX0_runToEnd yX0_runToEnd ∈ pm_gw := pm_gw_of 4 (by decide +kernel) rfl
theorem mok_X0_runOnce : pm_mok mX0_runOnce 2 := ⟨co_X0_runOnce, ini_RX0, ⟨by decide +kernel, by decide +kernel⟩, by decide +kernel, by decide⟩
theorem in_X0_runOnce : Cond.instanceMethod yX0_runOnce ∈ pm_gw := pm_gw_of 456 (by decide +kernel) rfl
theorem se_X0_runOnce : Cond.selects RX0 yX0_runOnce yX0_runOnce ∈ pm_gw := pm_gw_of 5 (by decide +kernel) rfl
theorem mok_X4_startTrace : pm_mok mX4_startTrace 0 := ⟨co_X4_startTrace, ini_RX4, ⟨by decide +kernel, by decide +kernel⟩, by decide +kernel, by decide⟩
theorem in_X4_startTrace : Cond.instanceMethod yX4_startTrace ∈ pm_gw := pm_gw_of 459 (by decide +kernel) rfl
theorem se_X4_startTrace : Cond.selects RX4 yX4_startTrace yX4_startTrace ∈ pm_gw := pm_gw_of 460 (by decide +kernel) rfl
theorem mok_X0_resultIfDone : pm_mok mX0_resultIfDone 1 := ⟨co_X0_resultIfDone, ini_RX0, ⟨by decide +kernel, by decide +kernel⟩, by decide +kernel, by decide⟩
theorem in_X0_resultIfDone : Cond.instanceMethod yX0_resultIfDone ∈ pm_gw := pm_gw_of 468 (by decide +kernel) rfl
theorem se_X0_resultIfDone : Cond.selects RX0 yX0_resultIfDone yX0_resultIfDone ∈ pm_gw := pm_gw_of 6 (by decide +kernel) rfl
theorem mok_X4_noteInTrace : pm_mok mX4_noteInTrace 2 := ⟨co_X4_noteInTrace, ini_RX4, ⟨by decide +kernel, by decide +kernel⟩, by decide +kernel, by decide⟩
theorem in_X4_noteInTrace : Cond.instanceMethod yX4_noteInTrace ∈ pm_gw := pm_gw_of 471 (by decide +kernel) rfl
theorem se_X4_noteInTrace : Cond.selects RX4 yX4_noteInTrace yX4_noteInTrace ∈ pm_gw := pm_gw_of 472 (by decide +kernel) rfl
theorem mok_X4_traces : pm_mok mX4_traces 1 := ⟨co_X4_traces, ini_RX4, ⟨by decide +kernel, by decide +kernel⟩, by decide +kernel, by decide⟩
theorem in_X4_traces : Cond.instanceMethod yX4_traces ∈ pm_gw := pm_gw_of 475 (by decide +kernel) rfl
theorem se_X4_traces : Cond.selects RX4 yX4_traces yX4_traces ∈ pm_gw := pm_gw_of 476 (by decide +kernel) rfl
theorem mok_X1_isFailure : pm_mok mX1_isFailure 0 := ⟨co_X1_isFailure, ini_RX1, ⟨by decide +kernel, by decide +kernel⟩, by decide +kernel, by decide⟩
theorem in_X1_isFailure : Cond.instanceMethod yX1_isFailure ∈ pm_gw := pm_gw_of 480 (by decide +kernel) rfl
theorem se_X1_isFailure : Cond.selects RX1 yX1_isFailure yX1_isFailure ∈ pm_gw := pm_gw_of 481 (by decide +kernel) rfl
theorem mok_X0_worked : pm_mok mX0_worked 3 := ⟨co_X0_worked, ini_RX0, ⟨by decide +kernel, by decide +kernel⟩, by decide +kernel, by decide⟩
theorem st_X0_worked : Cond.static yX0_worked ∈ pm_gw := pm_gw_of 484 (by decide +kernel) rfl
theorem mok_X0_failingSort : pm_mok mX0_failingSort 4 := ⟨co_X0_failingSort, ini_RX0, ⟨by decide +kernel, by decide +kernel⟩, by decide +kernel, by decide⟩
theorem st_X0_failingSort : Cond.static yX0_failingSort ∈ pm_gw := pm_gw_of 487 (by decide +kernel) rfl
theorem mok_X0_stepsToPass : pm_mok mX0_stepsToPass 3 := ⟨co_X0_stepsToPass, ini_RX0, ⟨by decide +kernel, by decide +kernel⟩, by decide +kernel, by decide⟩
theorem st_X0_stepsToPass : Cond.static yX0_stepsToPass ∈ pm_gw := pm_gw_of 491 (by decide +kernel) rfl
theorem mok_X1_isOrComesOfSort : pm_mok mX1_isOrComesOfSort 1 := ⟨co_X1_isOrComesOfSort, ini_RX1, ⟨by decide +kernel, by decide +kernel⟩, by decide +kernel, by decide⟩
theorem in_X1_isOrComesOfSort : Cond.instanceMethod yX1_isOrComesOfSort ∈ pm_gw := pm_gw_of 495 (by decide +kernel) rfl
theorem se_X1_isOrComesOfSort : Cond.selects RX1 yX1_isOrComesOfSort yX1_isOrComesOfSort ∈ pm_gw := pm_gw_of 496 (by decide +kernel) rfl
theorem mok_X0_noteDone : pm_mok mX0_noteDone 1 := ⟨co_X0_noteDone, ini_RX0, ⟨by decide +kernel, by decide +kernel⟩, by decide +kernel, by decide⟩
theorem in_X0_noteDone : Cond.instanceMethod yX0_noteDone ∈ pm_gw := pm_gw_of 501 (by decide +kernel) rfl
theorem se_X0_noteDone : Cond.selects RX0 yX0_noteDone yX0_noteDone ∈ pm_gw := pm_gw_of 7 (by decide +kernel) rfl
theorem mok_X5_failureOf : pm_mok mX5_failureOf 1 := ⟨co_X5_failureOf, ini_RX5, ⟨by decide +kernel, by decide +kernel⟩, by decide +kernel, by decide⟩
theorem in_X5_failureOf : Cond.instanceMethod yX5_failureOf ∈ pm_gw := pm_gw_of 504 (by decide +kernel) rfl
theorem se_X5_failureOf : Cond.selects RX5 yX5_failureOf yX5_failureOf ∈ pm_gw := pm_gw_of 505 (by decide +kernel) rfl
theorem mok_X6_all : pm_mok mX6_all 1 := ⟨co_X6_all, ini_RX6, ⟨by decide +kernel, by decide +kernel⟩, by decide +kernel, by decide⟩
theorem in_X6_all : Cond.instanceMethod yX6_all ∈ pm_gw := pm_gw_of 510 (by decide +kernel) rfl
theorem se_X6_all : Cond.selects RX6 yX6_all yX6_all ∈ pm_gw := pm_gw_of 511 (by decide +kernel) rfl
theorem mok_X6_isStops : pm_mok mX6_isStops 1 := ⟨co_X6_isStops, ini_RX6, ⟨by decide +kernel, by decide +kernel⟩, by decide +kernel, by decide⟩
theorem st_X6_isStops : Cond.static yX6_isStops ∈ pm_gw := pm_gw_of 514 (by decide +kernel) rfl
theorem mok_X6_some : pm_mok mX6_some 2 := ⟨co_X6_some, ini_RX6, ⟨by decide +kernel, by decide +kernel⟩, by decide +kernel, by decide⟩
theorem in_X6_some : Cond.instanceMethod yX6_some ∈ pm_gw := pm_gw_of 519 (by decide +kernel) rfl
theorem se_X6_some : Cond.selects RX6 yX6_some yX6_some ∈ pm_gw := pm_gw_of 520 (by decide +kernel) rfl
theorem mok_X6_tried : pm_mok mX6_tried 3 := ⟨co_X6_tried, ini_RX6, ⟨by decide +kernel, by decide +kernel⟩, by decide +kernel, by decide⟩
theorem in_X6_tried : Cond.instanceMethod yX6_tried ∈ pm_gw := pm_gw_of 523 (by decide +kernel) rfl
theorem se_X6_tried : Cond.selects RX6 yX6_tried yX6_tried ∈ pm_gw := pm_gw_of 524 (by decide +kernel) rfl
theorem mok_X5_copyFrom : pm_mok mX5_copyFrom 1 := ⟨co_X5_copyFrom, ini_RX5, ⟨by decide +kernel, by decide +kernel⟩, by decide +kernel, by decide⟩
theorem in_X5_copyFrom : Cond.instanceMethod yX5_copyFrom ∈ pm_gw := pm_gw_of 527 (by decide +kernel) rfl
theorem se_X5_copyFrom : Cond.selects RX5 yX5_copyFrom yX5_copyFrom ∈ pm_gw := pm_gw_of 528 (by decide +kernel) rfl
theorem mok_X4_copyFrom : pm_mok mX4_copyFrom 1 := ⟨co_X4_copyFrom, ini_RX4, ⟨by decide +kernel, by decide +kernel⟩, by decide +kernel, by decide⟩
theorem in_X4_copyFrom : Cond.instanceMethod yX4_copyFrom ∈ pm_gw := pm_gw_of 531 (by decide +kernel) rfl
theorem se_X4_copyFrom : Cond.selects RX4 yX4_copyFrom yX4_copyFrom ∈ pm_gw := pm_gw_of 532 (by decide +kernel) rfl
theorem mok_X6_result : pm_mok mX6_result 1 := ⟨co_X6_result, ini_RX6, ⟨by decide +kernel, by decide +kernel⟩, by decide +kernel, by decide⟩
theorem in_X6_result : Cond.instanceMethod yX6_result ∈ pm_gw := pm_gw_of 535 (by decide +kernel) rfl
theorem se_X6_result : Cond.selects RX6 yX6_result yX6_result ∈ pm_gw := pm_gw_of 536 (by decide +kernel) rfl
theorem mok_X5_toldResult : pm_mok mX5_toldResult 1 := ⟨co_X5_toldResult, ini_RX5, ⟨by decide +kernel, by decide +kernel⟩, by decide +kernel, by decide⟩
theorem in_X5_toldResult : Cond.instanceMethod yX5_toldResult ∈ pm_gw := pm_gw_of 540 (by decide +kernel) rfl
theorem se_X5_toldResult : Cond.selects RX5 yX5_toldResult yX5_toldResult ∈ pm_gw := pm_gw_of 541 (by decide +kernel) rfl
theorem mok_X1_asTold : pm_mok mX1_asTold 0 := ⟨co_X1_asTold, ini_RX1, ⟨by decide +kernel, by decide +kernel⟩, by decide +kernel, by decide⟩
theorem in_X1_asTold : Cond.instanceMethod yX1_asTold ∈ pm_gw := pm_gw_of 545 (by decide +kernel) rfl
theorem se_X1_asTold : Cond.selects RX1 yX1_asTold yX1_asTold ∈ pm_gw := pm_gw_of 546 (by decide +kernel) rfl
theorem mok_X6_failure : pm_mok mX6_failure 3 := ⟨co_X6_failure, ini_RX6, ⟨by decide +kernel, by decide +kernel⟩, by decide +kernel, by decide⟩
theorem in_X6_failure : Cond.instanceMethod yX6_failure ∈ pm_gw := pm_gw_of 551 (by decide +kernel) rfl
theorem se_X6_failure : Cond.selects RX6 yX6_failure yX6_failure ∈ pm_gw := pm_gw_of 552 (by decide +kernel) rfl
theorem mok_X6_causes : pm_mok mX6_causes 1 := ⟨co_X6_causes, ini_RX6, ⟨by decide +kernel, by decide +kernel⟩, by decide +kernel, by decide⟩
theorem in_X6_causes : Cond.instanceMethod yX6_causes ∈ pm_gw := pm_gw_of 556 (by decide +kernel) rfl
theorem se_X6_causes : Cond.selects RX6 yX6_causes yX6_causes ∈ pm_gw := pm_gw_of 557 (by decide +kernel) rfl
theorem mok_X1_causeCount : pm_mok mX1_causeCount 0 := ⟨co_X1_causeCount, ini_RX1, ⟨by decide +kernel, by decide +kernel⟩, by decide +kernel, by decide⟩
theorem in_X1_causeCount : Cond.instanceMethod yX1_causeCount ∈ pm_gw := pm_gw_of 560 (by decide +kernel) rfl
theorem se_X1_causeCount : Cond.selects RX1 yX1_causeCount yX1_causeCount ∈ pm_gw := pm_gw_of 561 (by decide +kernel) rfl
theorem mok_X6_root : pm_mok mX6_root 1 := ⟨co_X6_root, ini_RX6, ⟨by decide +kernel, by decide +kernel⟩, by decide +kernel, by decide⟩
theorem in_X6_root : Cond.instanceMethod yX6_root ∈ pm_gw := pm_gw_of 564 (by decide +kernel) rfl
theorem se_X6_root : Cond.selects RX6 yX6_root yX6_root ∈ pm_gw := pm_gw_of 565 (by decide +kernel) rfl
theorem mok_X1_rootKey : pm_mok mX1_rootKey 0 := ⟨co_X1_rootKey, ini_RX1, ⟨by decide +kernel, by decide +kernel⟩, by decide +kernel, by decide⟩
theorem in_X1_rootKey : Cond.instanceMethod yX1_rootKey ∈ pm_gw := pm_gw_of 568 (by decide +kernel) rfl
theorem se_X1_rootKey : Cond.selects RX1 yX1_rootKey yX1_rootKey ∈ pm_gw := pm_gw_of 569 (by decide +kernel) rfl
theorem mok_X6_blamed : pm_mok mX6_blamed 1 := ⟨co_X6_blamed, ini_RX6, ⟨by decide +kernel, by decide +kernel⟩, by decide +kernel, by decide⟩
theorem in_X6_blamed : Cond.instanceMethod yX6_blamed ∈ pm_gw := pm_gw_of 572 (by decide +kernel) rfl
theorem se_X6_blamed : Cond.selects RX6 yX6_blamed yX6_blamed ∈ pm_gw := pm_gw_of 573 (by decide +kernel) rfl
theorem mok_X5_targetsFailingBy : pm_mok mX5_targetsFailingBy 1 := ⟨co_X5_targetsFailingBy, ini_RX5, ⟨by decide +kernel, by decide +kernel⟩, by decide +kernel, by decide⟩
theorem in_X5_targetsFailingBy : Cond.instanceMethod yX5_targetsFailingBy ∈ pm_gw := pm_gw_of 576 (by decide +kernel) rfl
theorem se_X5_targetsFailingBy : Cond.selects RX5 yX5_targetsFailingBy yX5_targetsFailingBy ∈ pm_gw := pm_gw_of 577 (by decide +kernel) rfl
theorem mok_X1_isOrComesOfKey : pm_mok mX1_isOrComesOfKey 1 := ⟨co_X1_isOrComesOfKey, ini_RX1, ⟨by decide +kernel, by decide +kernel⟩, by decide +kernel, by decide⟩
theorem in_X1_isOrComesOfKey : Cond.instanceMethod yX1_isOrComesOfKey ∈ pm_gw := pm_gw_of 581 (by decide +kernel) rfl
theorem se_X1_isOrComesOfKey : Cond.selects RX1 yX1_isOrComesOfKey yX1_isOrComesOfKey ∈ pm_gw := pm_gw_of 582 (by decide +kernel) rfl
theorem mok_X6_trace : pm_mok mX6_trace 2 := ⟨co_X6_trace, ini_RX6, ⟨by decide +kernel, by decide +kernel⟩, by decide +kernel, by decide⟩
theorem in_X6_trace : Cond.instanceMethod yX6_trace ∈ pm_gw := pm_gw_of 585 (by decide +kernel) rfl
theorem se_X6_trace : Cond.selects RX6 yX6_trace yX6_trace ∈ pm_gw := pm_gw_of 586 (by decide +kernel) rfl
theorem mok_X6_seen : pm_mok mX6_seen 2 := ⟨co_X6_seen, ini_RX6, ⟨by decide +kernel, by decide +kernel⟩, by decide +kernel, by decide⟩
theorem in_X6_seen : Cond.instanceMethod yX6_seen ∈ pm_gw := pm_gw_of 591 (by decide +kernel) rfl
theorem se_X6_seen : Cond.selects RX6 yX6_seen yX6_seen ∈ pm_gw := pm_gw_of 592 (by decide +kernel) rfl
theorem mok_X6_users : pm_mok mX6_users 1 := ⟨co_X6_users, ini_RX6, ⟨by decide +kernel, by decide +kernel⟩, by decide +kernel, by decide⟩
theorem in_X6_users : Cond.instanceMethod yX6_users ∈ pm_gw := pm_gw_of 597 (by decide +kernel) rfl
theorem se_X6_users : Cond.selects RX6 yX6_users yX6_users ∈ pm_gw := pm_gw_of 598 (by decide +kernel) rfl
theorem mok_X5_targetsTracing : pm_mok mX5_targetsTracing 1 := ⟨co_X5_targetsTracing, ini_RX5, ⟨by decide +kernel, by decide +kernel⟩, by decide +kernel, by decide⟩
theorem in_X5_targetsTracing : Cond.instanceMethod yX5_targetsTracing ∈ pm_gw := pm_gw_of 601 (by decide +kernel) rfl
theorem se_X5_targetsTracing : Cond.selects RX5 yX5_targetsTracing yX5_targetsTracing ∈ pm_gw := pm_gw_of 602 (by decide +kernel) rfl
theorem mok_X6_depth : pm_mok mX6_depth 1 := ⟨co_X6_depth, ini_RX6, ⟨by decide +kernel, by decide +kernel⟩, by decide +kernel, by decide⟩
theorem in_X6_depth : Cond.instanceMethod yX6_depth ∈ pm_gw := pm_gw_of 606 (by decide +kernel) rfl
theorem se_X6_depth : Cond.selects RX6 yX6_depth yX6_depth ∈ pm_gw := pm_gw_of 607 (by decide +kernel) rfl
theorem mok_X5_depthOf : pm_mok mX5_depthOf 1 := ⟨co_X5_depthOf, ini_RX5, ⟨by decide +kernel, by decide +kernel⟩, by decide +kernel, by decide⟩
theorem in_X5_depthOf : Cond.instanceMethod yX5_depthOf ∈ pm_gw := pm_gw_of 610 (by decide +kernel) rfl
theorem se_X5_depthOf : Cond.selects RX5 yX5_depthOf yX5_depthOf ∈ pm_gw := pm_gw_of 611 (by decide +kernel) rfl
theorem mok_J7_fill_53178 : pm_mok mJ7_fill_53178 2 := ⟨co_J7_fill_53178, ini_RJ7, ⟨by decide +kernel, by decide +kernel⟩, by decide +kernel, by decide⟩
theorem st_J7_fill_53178 : Cond.static yJ7_fill_53178 ∈ pm_gw := pm_gw_of 614 (by decide +kernel) rfl
theorem mok_X5_deepenAll : pm_mok mX5_deepenAll 0 := ⟨co_X5_deepenAll, ini_RX5, ⟨by decide +kernel, by decide +kernel⟩, by decide +kernel, by decide⟩
theorem in_X5_deepenAll : Cond.instanceMethod yX5_deepenAll ∈ pm_gw := pm_gw_of 618 (by decide +kernel) rfl
theorem se_X5_deepenAll : Cond.selects RX5 yX5_deepenAll yX5_deepenAll ∈ pm_gw := pm_gw_of 8 (by decide +kernel) rfl
theorem mok_X5_depthByTrace : pm_mok mX5_depthByTrace 1 := ⟨co_X5_depthByTrace, ini_RX5, ⟨by decide +kernel, by decide +kernel⟩, by decide +kernel, by decide⟩
theorem in_X5_depthByTrace : Cond.instanceMethod yX5_depthByTrace ∈ pm_gw := pm_gw_of 622 (by decide +kernel) rfl
theorem se_X5_depthByTrace : Cond.selects RX5 yX5_depthByTrace yX5_depthByTrace ∈ pm_gw := pm_gw_of 9 (by decide +kernel) rfl
theorem mok_J9_max_7cf53 : pm_mok mJ9_max_7cf53 2 := ⟨co_J9_max_7cf53, ini_RJ9, ⟨by decide +kernel, by decide +kernel⟩, by decide +kernel, by decide⟩
theorem st_J9_max_7cf53 : Cond.static yJ9_max_7cf53 ∈ pm_gw := pm_gw_of 626 (by decide +kernel) rfl
theorem mok_X6_order : pm_mok mX6_order 1 := ⟨co_X6_order, ini_RX6, ⟨by decide +kernel, by decide +kernel⟩, by decide +kernel, by decide⟩
theorem in_X6_order : Cond.instanceMethod yX6_order ∈ pm_gw := pm_gw_of 629 (by decide +kernel) rfl
theorem se_X6_order : Cond.selects RX6 yX6_order yX6_order ∈ pm_gw := pm_gw_of 630 (by decide +kernel) rfl
theorem mok_X0_doneAt : pm_mok mX0_doneAt 1 := ⟨co_X0_doneAt, ini_RX0, ⟨by decide +kernel, by decide +kernel⟩, by decide +kernel, by decide⟩
theorem in_X0_doneAt : Cond.instanceMethod yX0_doneAt ∈ pm_gw := pm_gw_of 633 (by decide +kernel) rfl
theorem se_X0_doneAt : Cond.selects RX0 yX0_doneAt yX0_doneAt ∈ pm_gw := pm_gw_of 634 (by decide +kernel) rfl
theorem mok_X6_unlike : pm_mok mX6_unlike 0 := ⟨co_X6_unlike, ini_RX6, ⟨by decide +kernel, by decide +kernel⟩, by decide +kernel, by decide⟩
theorem in_X6_unlike : Cond.instanceMethod yX6_unlike ∈ pm_gw := pm_gw_of 637 (by decide +kernel) rfl
theorem se_X6_unlike : Cond.selects RX6 yX6_unlike yX6_unlike ∈ pm_gw := pm_gw_of 638 (by decide +kernel) rfl
theorem mok_X5_unlikeResults : pm_mok mX5_unlikeResults 0 := ⟨co_X5_unlikeResults, ini_RX5, ⟨by decide +kernel, by decide +kernel⟩, by decide +kernel, by decide⟩
theorem in_X5_unlikeResults : Cond.instanceMethod yX5_unlikeResults ∈ pm_gw := pm_gw_of 641 (by decide +kernel) rfl
theorem se_X5_unlikeResults : Cond.selects RX5 yX5_unlikeResults yX5_unlikeResults ∈ pm_gw := pm_gw_of 642 (by decide +kernel) rfl
theorem mok_X5_hasSameBelow : pm_mok mX5_hasSameBelow 1 := ⟨co_X5_hasSameBelow, ini_RX5, ⟨by decide +kernel, by decide +kernel⟩, by decide +kernel, by decide⟩
theorem in_X5_hasSameBelow : Cond.instanceMethod yX5_hasSameBelow ∈ pm_gw := pm_gw_of 646 (by decide +kernel) rfl
theorem se_X5_hasSameBelow : Cond.selects RX5 yX5_hasSameBelow yX5_hasSameBelow ∈ pm_gw := pm_gw_of 10 (by decide +kernel) rfl
theorem mok_X6_fresh : pm_mok mX6_fresh 0 := ⟨co_X6_fresh, ini_RX6, ⟨by decide +kernel, by decide +kernel⟩, by decide +kernel, by decide⟩
theorem in_X6_fresh : Cond.instanceMethod yX6_fresh ∈ pm_gw := pm_gw_of 650 (by decide +kernel) rfl
theorem se_X6_fresh : Cond.selects RX6 yX6_fresh yX6_fresh ∈ pm_gw := pm_gw_of 651 (by decide +kernel) rfl
theorem mok_X5_targetsUpToDate : pm_mok mX5_targetsUpToDate 0 := ⟨co_X5_targetsUpToDate, ini_RX5, ⟨by decide +kernel, by decide +kernel⟩, by decide +kernel, by decide⟩
theorem in_X5_targetsUpToDate : Cond.instanceMethod yX5_targetsUpToDate ∈ pm_gw := pm_gw_of 654 (by decide +kernel) rfl
theorem se_X5_targetsUpToDate : Cond.selects RX5 yX5_targetsUpToDate yX5_targetsUpToDate ∈ pm_gw := pm_gw_of 655 (by decide +kernel) rfl
theorem mok_X5_isUpToDate : pm_mok mX5_isUpToDate 1 := ⟨co_X5_isUpToDate, ini_RX5, ⟨by decide +kernel, by decide +kernel⟩, by decide +kernel, by decide⟩
theorem in_X5_isUpToDate : Cond.instanceMethod yX5_isUpToDate ∈ pm_gw := pm_gw_of 659 (by decide +kernel) rfl
theorem se_X5_isUpToDate : Cond.selects RX5 yX5_isUpToDate yX5_isUpToDate ∈ pm_gw := pm_gw_of 11 (by decide +kernel) rfl
theorem mok_X6_forget : pm_mok mX6_forget 1 := ⟨co_X6_forget, ini_RX6, ⟨by decide +kernel, by decide +kernel⟩, by decide +kernel, by decide⟩
theorem in_X6_forget : Cond.instanceMethod yX6_forget ∈ pm_gw := pm_gw_of 664 (by decide +kernel) rfl
theorem se_X6_forget : Cond.selects RX6 yX6_forget yX6_forget ∈ pm_gw := pm_gw_of 665 (by decide +kernel) rfl
theorem mok_X6_told : pm_mok mX6_told 1 := ⟨co_X6_told, ini_RX6, ⟨by decide +kernel, by decide +kernel⟩, by decide +kernel, by decide⟩
theorem in_X6_told : Cond.instanceMethod yX6_told ∈ pm_gw := pm_gw_of 669 (by decide +kernel) rfl
theorem se_X6_told : Cond.selects RX6 yX6_told yX6_told ∈ pm_gw := pm_gw_of 670 (by decide +kernel) rfl
theorem mok_X5_ruleCount : pm_mok mX5_ruleCount 0 := ⟨co_X5_ruleCount, ini_RX5, ⟨by decide +kernel, by decide +kernel⟩, by decide +kernel, by decide⟩
theorem in_X5_ruleCount : Cond.instanceMethod yX5_ruleCount ∈ pm_gw := pm_gw_of 673 (by decide +kernel) rfl
theorem se_X5_ruleCount : Cond.selects RX5 yX5_ruleCount yX5_ruleCount ∈ pm_gw := pm_gw_of 674 (by decide +kernel) rfl
theorem mok_X5_resultCount : pm_mok mX5_resultCount 0 := ⟨co_X5_resultCount, ini_RX5, ⟨by decide +kernel, by decide +kernel⟩, by decide +kernel, by decide⟩
theorem in_X5_resultCount : Cond.instanceMethod yX5_resultCount ∈ pm_gw := pm_gw_of 677 (by decide +kernel) rfl
theorem se_X5_resultCount : Cond.selects RX5 yX5_resultCount yX5_resultCount ∈ pm_gw := pm_gw_of 678 (by decide +kernel) rfl
theorem mok_X5_failureCount : pm_mok mX5_failureCount 0 := ⟨co_X5_failureCount, ini_RX5, ⟨by decide +kernel, by decide +kernel⟩, by decide +kernel, by decide⟩
theorem in_X5_failureCount : Cond.instanceMethod yX5_failureCount ∈ pm_gw := pm_gw_of 681 (by decide +kernel) rfl
theorem se_X5_failureCount : Cond.selects RX5 yX5_failureCount yX5_failureCount ∈ pm_gw := pm_gw_of 682 (by decide +kernel) rfl
theorem mok_X5_traceCount : pm_mok mX5_traceCount 0 := ⟨co_X5_traceCount, ini_RX5, ⟨by decide +kernel, by decide +kernel⟩, by decide +kernel, by decide⟩
theorem in_X5_traceCount : Cond.instanceMethod yX5_traceCount ∈ pm_gw := pm_gw_of 685 (by decide +kernel) rfl
theorem se_X5_traceCount : Cond.selects RX5 yX5_traceCount yX5_traceCount ∈ pm_gw := pm_gw_of 686 (by decide +kernel) rfl
theorem mok_X6_list : pm_mok mX6_list 2 := ⟨co_X6_list, ini_RX6, ⟨by decide +kernel, by decide +kernel⟩, by decide +kernel, by decide⟩
theorem in_X6_list : Cond.instanceMethod yX6_list ∈ pm_gw := pm_gw_of 689 (by decide +kernel) rfl
theorem se_X6_list : Cond.selects RX6 yX6_list yX6_list ∈ pm_gw := pm_gw_of 690 (by decide +kernel) rfl
theorem mok_X6_rowOf : pm_mok mX6_rowOf 1 := ⟨co_X6_rowOf, ini_RX6, ⟨by decide +kernel, by decide +kernel⟩, by decide +kernel, by decide⟩
theorem in_X6_rowOf : Cond.instanceMethod yX6_rowOf ∈ pm_gw := pm_gw_of 694 (by decide +kernel) rfl
theorem se_X6_rowOf : Cond.selects RX6 yX6_rowOf yX6_rowOf ∈ pm_gw := pm_gw_of 12 (by decide +kernel) rfl
theorem mok_X2_hold : pm_mok mX2_hold 1 := ⟨co_X2_hold, ini_RX2, ⟨by decide +kernel, by decide +kernel⟩, by decide +kernel, by decide⟩
theorem in_X2_hold : Cond.instanceMethod yX2_hold ∈ pm_gw := pm_gw_of 697 (by decide +kernel) rfl
theorem se_X2_hold : Cond.selects RX2 yX2_hold yX2_hold ∈ pm_gw := pm_gw_of 698 (by decide +kernel) rfl
theorem mok_J7_fill_d0a16 : pm_mok mJ7_fill_d0a16 2 := ⟨co_J7_fill_d0a16, ini_RJ7, ⟨by decide +kernel, by decide +kernel⟩, by decide +kernel, by decide⟩
theorem st_J7_fill_d0a16 : Cond.static yJ7_fill_d0a16 ∈ pm_gw := pm_gw_of 703 (by decide +kernel) rfl
theorem mok_X6_put : pm_mok mX6_put 3 := ⟨co_X6_put, ini_RX6, ⟨by decide +kernel, by decide +kernel⟩, by decide +kernel, by decide⟩
theorem in_X6_put : Cond.instanceMethod yX6_put ∈ pm_gw := pm_gw_of 706 (by decide +kernel) rfl
theorem se_X6_put : Cond.selects RX6 yX6_put yX6_put ∈ pm_gw := pm_gw_of 707 (by decide +kernel) rfl
theorem mok_X2_write : pm_mok mX2_write 2 := ⟨co_X2_write, ini_RX2, ⟨by decide +kernel, by decide +kernel⟩, by decide +kernel, by decide⟩
theorem in_X2_write : Cond.instanceMethod yX2_write ∈ pm_gw := pm_gw_of 710 (by decide +kernel) rfl
theorem se_X2_write : Cond.selects RX2 yX2_write yX2_write ∈ pm_gw := pm_gw_of 711 (by decide +kernel) rfl
theorem mok_X2_hasPlace : pm_mok mX2_hasPlace 1 := ⟨co_X2_hasPlace, ini_RX2, ⟨by decide +kernel, by decide +kernel⟩, by decide +kernel, by decide⟩
theorem in_X2_hasPlace : Cond.instanceMethod yX2_hasPlace ∈ pm_gw := pm_gw_of 714 (by decide +kernel) rfl
theorem se_X2_hasPlace : Cond.selects RX2 yX2_hasPlace yX2_hasPlace ∈ pm_gw := pm_gw_of 715 (by decide +kernel) rfl
theorem mok_X6_get : pm_mok mX6_get 2 := ⟨co_X6_get, ini_RX6, ⟨by decide +kernel, by decide +kernel⟩, by decide +kernel, by decide⟩
theorem in_X6_get : Cond.instanceMethod yX6_get ∈ pm_gw := pm_gw_of 718 (by decide +kernel) rfl
theorem se_X6_get : Cond.selects RX6 yX6_get yX6_get ∈ pm_gw := pm_gw_of 719 (by decide +kernel) rfl
theorem mok_X2_read : pm_mok mX2_read 1 := ⟨co_X2_read, ini_RX2, ⟨by decide +kernel, by decide +kernel⟩, by decide +kernel, by decide⟩
theorem in_X2_read : Cond.instanceMethod yX2_read ∈ pm_gw := pm_gw_of 723 (by decide +kernel) rfl
theorem se_X2_read : Cond.selects RX2 yX2_read yX2_read ∈ pm_gw := pm_gw_of 724 (by decide +kernel) rfl
theorem mok_X6_move : pm_mok mX6_move 5 := ⟨co_X6_move, ini_RX6, ⟨by decide +kernel, by decide +kernel⟩, by decide +kernel, by decide⟩
theorem in_X6_move : Cond.instanceMethod yX6_move ∈ pm_gw := pm_gw_of 728 (by decide +kernel) rfl
theorem se_X6_move : Cond.selects RX6 yX6_move yX6_move ∈ pm_gw := pm_gw_of 729 (by decide +kernel) rfl
theorem mok_X2_hasSpan : pm_mok mX2_hasSpan 2 := ⟨co_X2_hasSpan, ini_RX2, ⟨by decide +kernel, by decide +kernel⟩, by decide +kernel, by decide⟩
theorem in_X2_hasSpan : Cond.instanceMethod yX2_hasSpan ∈ pm_gw := pm_gw_of 732 (by decide +kernel) rfl
theorem se_X2_hasSpan : Cond.selects RX2 yX2_hasSpan yX2_hasSpan ∈ pm_gw := pm_gw_of 733 (by decide +kernel) rfl
theorem mok_X6_lay : pm_mok mX6_lay 2 := ⟨co_X6_lay, ini_RX6, ⟨by decide +kernel, by decide +kernel⟩, by decide +kernel, by decide⟩
theorem in_X6_lay : Cond.instanceMethod yX6_lay ∈ pm_gw := pm_gw_of 737 (by decide +kernel) rfl
theorem se_X6_lay : Cond.selects RX6 yX6_lay yX6_lay ∈ pm_gw := pm_gw_of 738 (by decide +kernel) rfl
theorem mok_X6_judge : pm_mok mX6_judge 2 := ⟨co_X6_judge, ini_RX6, ⟨by decide +kernel, by decide +kernel⟩, by decide +kernel, by decide⟩
theorem in_X6_judge : Cond.instanceMethod yX6_judge ∈ pm_gw := pm_gw_of 741 (by decide +kernel) rfl
theorem se_X6_judge : Cond.selects RX6 yX6_judge yX6_judge ∈ pm_gw := pm_gw_of 742 (by decide +kernel) rfl
theorem mok_X6_image : pm_mok mX6_image 0 := ⟨co_X6_image, ini_RX6, ⟨by decide +kernel, by decide +kernel⟩, by decide +kernel, by decide⟩
theorem in_X6_image : Cond.instanceMethod yX6_image ∈ pm_gw := pm_gw_of 746 (by decide +kernel) rfl
theorem se_X6_image : Cond.selects RX6 yX6_image yX6_image ∈ pm_gw := pm_gw_of 747 (by decide +kernel) rfl
theorem mok_X6_undo : pm_mok mX6_undo 0 := ⟨co_X6_undo, ini_RX6, ⟨by decide +kernel, by decide +kernel⟩, by decide +kernel, by decide⟩
theorem in_X6_undo : Cond.instanceMethod yX6_undo ∈ pm_gw := pm_gw_of 750 (by decide +kernel) rfl
theorem se_X6_undo : Cond.selects RX6 yX6_undo yX6_undo ∈ pm_gw := pm_gw_of 751 (by decide +kernel) rfl
theorem mok_X7_init : pm_mok mX7_init 0 := ⟨co_X7_init, ini_RX7, ⟨by decide +kernel, by decide +kernel⟩, by decide +kernel, by decide⟩
theorem in_X7_init : Cond.instanceMethod yX7_init ∈ pm_gw := pm_gw_of 757 (by decide +kernel) rfl
theorem mok_X7_give : pm_mok mX7_give 2 := ⟨co_X7_give, ini_RX7, ⟨by decide +kernel, by decide +kernel⟩, by decide +kernel, by decide⟩
theorem in_X7_give : Cond.instanceMethod yX7_give ∈ pm_gw := pm_gw_of 850 (by decide +kernel) rfl
theorem se_X7_give : Cond.selects RX7 yX7_give yX7_give ∈ pm_gw := pm_gw_of 851 (by decide +kernel) rfl
theorem mok_X7_isInput : pm_mok mX7_isInput 1 := ⟨co_X7_isInput, ini_RX7, ⟨by decide +kernel, by decide +kernel⟩, by decide +kernel, by decide⟩
theorem st_X7_isInput : Cond.static yX7_isInput ∈ pm_gw := pm_gw_of 854 (by decide +kernel) rfl
theorem mok_X7_isIn : pm_mok mX7_isIn 3 := ⟨co_X7_isIn, ini_RX7, ⟨by decide +kernel, by decide +kernel⟩, by decide +kernel, by decide⟩
theorem st_X7_isIn : Cond.static yX7_isIn ∈ pm_gw := pm_gw_of 858 (by decide +kernel) rfl
theorem mok_X7_numberResult : pm_mok mX7_numberResult 1 := ⟨co_X7_numberResult, ini_RX7, ⟨by decide +kernel, by decide +kernel⟩, by decide +kernel, by decide⟩
theorem st_X7_numberResult : Cond.static yX7_numberResult ∈ pm_gw := pm_gw_of 863 (by decide +kernel) rfl
theorem mok_X7_take : pm_mok mX7_take 1 := ⟨co_X7_take, ini_RX7, ⟨by decide +kernel, by decide +kernel⟩, by decide +kernel, by decide⟩
theorem in_X7_take : Cond.instanceMethod yX7_take ∈ pm_gw := pm_gw_of 867 (by decide +kernel) rfl
theorem se_X7_take : Cond.selects RX7 yX7_take yX7_take ∈ pm_gw := pm_gw_of 868 (by decide +kernel) rfl
theorem mok_X7_numberOf : pm_mok mX7_numberOf 1 := ⟨co_X7_numberOf, ini_RX7, ⟨by decide +kernel, by decide +kernel⟩, by decide +kernel, by decide⟩
theorem st_X7_numberOf : Cond.static yX7_numberOf ∈ pm_gw := pm_gw_of 871 (by decide +kernel) rfl
theorem mok_X7_feed : pm_mok mX7_feed 1 := ⟨co_X7_feed, ini_RX7, ⟨by decide +kernel, by decide +kernel⟩, by decide +kernel, by decide⟩
theorem in_X7_feed : Cond.instanceMethod yX7_feed ∈ pm_gw := pm_gw_of 874 (by decide +kernel) rfl
theorem se_X7_feed : Cond.selects RX7 yX7_feed yX7_feed ∈ pm_gw := pm_gw_of 875 (by decide +kernel) rfl
theorem mok_X7_clear : pm_mok mX7_clear 0 := ⟨co_X7_clear, ini_RX7, ⟨by decide +kernel, by decide +kernel⟩, by decide +kernel, by decide⟩
theorem in_X7_clear : Cond.instanceMethod yX7_clear ∈ pm_gw := pm_gw_of 879 (by decide +kernel) rfl
theorem se_X7_clear : Cond.selects RX7 yX7_clear yX7_clear ∈ pm_gw := pm_gw_of 880 (by decide +kernel) rfl
theorem mok_X7_rule : pm_mok mX7_rule 1 := ⟨co_X7_rule, ini_RX7, ⟨by decide +kernel, by decide +kernel⟩, by decide +kernel, by decide⟩
theorem in_X7_rule : Cond.instanceMethod yX7_rule ∈ pm_gw := pm_gw_of 883 (by decide +kernel) rfl
theorem se_X7_rule : Cond.selects RX7 yX7_rule yX7_rule ∈ pm_gw := pm_gw_of 884 (by decide +kernel) rfl
theorem mok_X7_isTarget : pm_mok mX7_isTarget 1 := ⟨co_X7_isTarget, ini_RX7, ⟨by decide +kernel, by decide +kernel⟩, by decide +kernel, by decide⟩
theorem st_X7_isTarget : Cond.static yX7_isTarget ∈ pm_gw := pm_gw_of 887 (by decide +kernel) rfl
theorem mok_X7_fault : pm_mok mX7_fault 0 := ⟨co_X7_fault, ini_RX7, ⟨by decide +kernel, by decide +kernel⟩, by decide +kernel, by decide⟩
theorem in_X7_fault : Cond.instanceMethod yX7_fault ∈ pm_gw := pm_gw_of 893 (by decide +kernel) rfl
theorem se_X7_fault : Cond.selects RX7 yX7_fault yX7_fault ∈ pm_gw := pm_gw_of 13 (by decide +kernel) rfl
theorem mok_X7_isSign : pm_mok mX7_isSign 1 := ⟨co_X7_isSign, ini_RX7, ⟨by decide +kernel, by decide +kernel⟩, by decide +kernel, by decide⟩
theorem st_X7_isSign : Cond.static yX7_isSign ∈ pm_gw := pm_gw_of 896 (by decide +kernel) rfl
theorem mok_X7_isAsking : pm_mok mX7_isAsking 1 := ⟨co_X7_isAsking, ini_RX7, ⟨by decide +kernel, by decide +kernel⟩, by decide +kernel, by decide⟩
theorem st_X7_isAsking : Cond.static yX7_isAsking ∈ pm_gw := pm_gw_of 899 (by decide +kernel) rfl
theorem mok_X7_isFigure : pm_mok mX7_isFigure 1 := ⟨co_X7_isFigure, ini_RX7, ⟨by decide +kernel, by decide +kernel⟩, by decide +kernel, by decide⟩
theorem in_X7_isFigure : Cond.instanceMethod yX7_isFigure ∈ pm_gw := pm_gw_of 903 (by decide +kernel) rfl
theorem se_X7_isFigure : Cond.selects RX7 yX7_isFigure yX7_isFigure ∈ pm_gw := pm_gw_of 14 (by decide +kernel) rfl
theorem mok_X7_traceAt : pm_mok mX7_traceAt 1 := ⟨co_X7_traceAt, ini_RX7, ⟨by decide +kernel, by decide +kernel⟩, by decide +kernel, by decide⟩
theorem in_X7_traceAt : Cond.instanceMethod yX7_traceAt ∈ pm_gw := pm_gw_of 909 (by decide +kernel) rfl
theorem se_X7_traceAt : Cond.selects RX7 yX7_traceAt yX7_traceAt ∈ pm_gw := pm_gw_of 15 (by decide +kernel) rfl
theorem mok_X7_drop : pm_mok mX7_drop 1 := ⟨co_X7_drop, ini_RX7, ⟨by decide +kernel, by decide +kernel⟩, by decide +kernel, by decide⟩
theorem in_X7_drop : Cond.instanceMethod yX7_drop ∈ pm_gw := pm_gw_of 912 (by decide +kernel) rfl
theorem se_X7_drop : Cond.selects RX7 yX7_drop yX7_drop ∈ pm_gw := pm_gw_of 913 (by decide +kernel) rfl
theorem mok_X7_ruled : pm_mok mX7_ruled 2 := ⟨co_X7_ruled, ini_RX7, ⟨by decide +kernel, by decide +kernel⟩, by decide +kernel, by decide⟩
theorem in_X7_ruled : Cond.instanceMethod yX7_ruled ∈ pm_gw := pm_gw_of 917 (by decide +kernel) rfl
theorem se_X7_ruled : Cond.selects RX7 yX7_ruled yX7_ruled ∈ pm_gw := pm_gw_of 16 (by decide +kernel) rfl
theorem mok_X7_copy : pm_mok mX7_copy 2 := ⟨co_X7_copy, ini_RX7, ⟨by decide +kernel, by decide +kernel⟩, by decide +kernel, by decide⟩
theorem in_X7_copy : Cond.instanceMethod yX7_copy ∈ pm_gw := pm_gw_of 920 (by decide +kernel) rfl
theorem se_X7_copy : Cond.selects RX7 yX7_copy yX7_copy ∈ pm_gw := pm_gw_of 921 (by decide +kernel) rfl
theorem mok_X7_step : pm_mok mX7_step 2 := ⟨co_X7_step, ini_RX7, ⟨by decide +kernel, by decide +kernel⟩, by decide +kernel, by decide⟩
theorem in_X7_step : Cond.instanceMethod yX7_step ∈ pm_gw := pm_gw_of 924 (by decide +kernel) rfl
theorem se_X7_step : Cond.selects RX7 yX7_step yX7_step ∈ pm_gw := pm_gw_of 925 (by decide +kernel) rfl
theorem mok_X7_build : pm_mok mX7_build 1 := ⟨co_X7_build, ini_RX7, ⟨by decide +kernel, by decide +kernel⟩, by decide +kernel, by decide⟩
theorem in_X7_build : Cond.instanceMethod yX7_build ∈ pm_gw := pm_gw_of 928 (by decide +kernel) rfl
theorem se_X7_build : Cond.selects RX7 yX7_build yX7_build ∈ pm_gw := pm_gw_of 929 (by decide +kernel) rfl
theorem mok_X7_built : pm_mok mX7_built 2 := ⟨co_X7_built, ini_RX7, ⟨by decide +kernel, by decide +kernel⟩, by decide +kernel, by decide⟩
theorem in_X7_built : Cond.instanceMethod yX7_built ∈ pm_gw := pm_gw_of 933 (by decide +kernel) rfl
theorem se_X7_built : Cond.selects RX7 yX7_built yX7_built ∈ pm_gw := pm_gw_of 17 (by decide +kernel) rfl
theorem mok_X7_builds : pm_mok mX7_builds 1 := ⟨co_X7_builds, ini_RX7, ⟨by decide +kernel, by decide +kernel⟩, by decide +kernel, by decide⟩
theorem in_X7_builds : Cond.instanceMethod yX7_builds ∈ pm_gw := pm_gw_of 937 (by decide +kernel) rfl
theorem se_X7_builds : Cond.selects RX7 yX7_builds yX7_builds ∈ pm_gw := pm_gw_of 18 (by decide +kernel) rfl
theorem mok_X7_fails : pm_mok mX7_fails 4 := ⟨co_X7_fails, ini_RX7, ⟨by decide +kernel, by decide +kernel⟩, by decide +kernel, by decide⟩
theorem in_X7_fails : Cond.instanceMethod yX7_fails ∈ pm_gw := pm_gw_of 941 (by decide +kernel) rfl
theorem se_X7_fails : Cond.selects RX7 yX7_fails yX7_fails ∈ pm_gw := pm_gw_of 19 (by decide +kernel) rfl
theorem mok_X7_traced : pm_mok mX7_traced 1 := ⟨co_X7_traced, ini_RX7, ⟨by decide +kernel, by decide +kernel⟩, by decide +kernel, by decide⟩
theorem in_X7_traced : Cond.instanceMethod yX7_traced ∈ pm_gw := pm_gw_of 945 (by decide +kernel) rfl
theorem se_X7_traced : Cond.selects RX7 yX7_traced yX7_traced ∈ pm_gw := pm_gw_of 20 (by decide +kernel) rfl
theorem mok_X7_isAsSeen : pm_mok mX7_isAsSeen 1 := ⟨co_X7_isAsSeen, ini_RX7, ⟨by decide +kernel, by decide +kernel⟩, by decide +kernel, by decide⟩
theorem in_X7_isAsSeen : Cond.instanceMethod yX7_isAsSeen ∈ pm_gw := pm_gw_of 949 (by decide +kernel) rfl
theorem se_X7_isAsSeen : Cond.selects RX7 yX7_isAsSeen yX7_isAsSeen ∈ pm_gw := pm_gw_of 21 (by decide +kernel) rfl
theorem mok_X7_isDone : pm_mok mX7_isDone 1 := ⟨co_X7_isDone, ini_RX7, ⟨by decide +kernel, by decide +kernel⟩, by decide +kernel, by decide⟩
theorem in_X7_isDone : Cond.instanceMethod yX7_isDone ∈ pm_gw := pm_gw_of 953 (by decide +kernel) rfl
theorem se_X7_isDone : Cond.selects RX7 yX7_isDone yX7_isDone ∈ pm_gw := pm_gw_of 22 (by decide +kernel) rfl
theorem mok_X7_has : pm_mok mX7_has 1 := ⟨co_X7_has, ini_RX7, ⟨by decide +kernel, by decide +kernel⟩, by decide +kernel, by decide⟩
theorem in_X7_has : Cond.instanceMethod yX7_has ∈ pm_gw := pm_gw_of 957 (by decide +kernel) rfl
theorem se_X7_has : Cond.selects RX7 yX7_has yX7_has ∈ pm_gw := pm_gw_of 23 (by decide +kernel) rfl
theorem mok_X7_runs : pm_mok mX7_runs 1 := ⟨co_X7_runs, ini_RX7, ⟨by decide +kernel, by decide +kernel⟩, by decide +kernel, by decide⟩
theorem in_X7_runs : Cond.instanceMethod yX7_runs ∈ pm_gw := pm_gw_of 961 (by decide +kernel) rfl
theorem se_X7_runs : Cond.selects RX7 yX7_runs yX7_runs ∈ pm_gw := pm_gw_of 24 (by decide +kernel) rfl
theorem mok_X7_goes : pm_mok mX7_goes 1 := ⟨co_X7_goes, ini_RX7, ⟨by decide +kernel, by decide +kernel⟩, by decide +kernel, by decide⟩
theorem in_X7_goes : Cond.instanceMethod yX7_goes ∈ pm_gw := pm_gw_of 965 (by decide +kernel) rfl
theorem se_X7_goes : Cond.selects RX7 yX7_goes yX7_goes ∈ pm_gw := pm_gw_of 25 (by decide +kernel) rfl
theorem mok_X7_notes : pm_mok mX7_notes 2 := ⟨co_X7_notes, ini_RX7, ⟨by decide +kernel, by decide +kernel⟩, by decide +kernel, by decide⟩
theorem in_X7_notes : Cond.instanceMethod yX7_notes ∈ pm_gw := pm_gw_of 969 (by decide +kernel) rfl
theorem se_X7_notes : Cond.selects RX7 yX7_notes yX7_notes ∈ pm_gw := pm_gw_of 26 (by decide +kernel) rfl
theorem mok_X7_isFailure : pm_mok mX7_isFailure 1 := ⟨co_X7_isFailure, ini_RX7, ⟨by decide +kernel, by decide +kernel⟩, by decide +kernel, by decide⟩
theorem st_X7_isFailure : Cond.static yX7_isFailure ∈ pm_gw := pm_gw_of 972 (by decide +kernel) rfl
theorem mok_X7_isOfRing : pm_mok mX7_isOfRing 1 := ⟨co_X7_isOfRing, ini_RX7, ⟨by decide +kernel, by decide +kernel⟩, by decide +kernel, by decide⟩
theorem in_X7_isOfRing : Cond.instanceMethod yX7_isOfRing ∈ pm_gw := pm_gw_of 976 (by decide +kernel) rfl
theorem se_X7_isOfRing : Cond.selects RX7 yX7_isOfRing yX7_isOfRing ∈ pm_gw := pm_gw_of 27 (by decide +kernel) rfl
theorem mok_X7_finishes : pm_mok mX7_finishes 1 := ⟨co_X7_finishes, ini_RX7, ⟨by decide +kernel, by decide +kernel⟩, by decide +kernel, by decide⟩
theorem in_X7_finishes : Cond.instanceMethod yX7_finishes ∈ pm_gw := pm_gw_of 980 (by decide +kernel) rfl
theorem se_X7_finishes : Cond.selects RX7 yX7_finishes yX7_finishes ∈ pm_gw := pm_gw_of 28 (by decide +kernel) rfl
theorem mok_X7_manyDone : pm_mok mX7_manyDone 0 := ⟨co_X7_manyDone, ini_RX7, ⟨by decide +kernel, by decide +kernel⟩, by decide +kernel, by decide⟩
theorem in_X7_manyDone : Cond.instanceMethod yX7_manyDone ∈ pm_gw := pm_gw_of 984 (by decide +kernel) rfl
theorem se_X7_manyDone : Cond.selects RX7 yX7_manyDone yX7_manyDone ∈ pm_gw := pm_gw_of 29 (by decide +kernel) rfl
theorem mok_X7_all : pm_mok mX7_all 1 := ⟨co_X7_all, ini_RX7, ⟨by decide +kernel, by decide +kernel⟩, by decide +kernel, by decide⟩
theorem in_X7_all : Cond.instanceMethod yX7_all ∈ pm_gw := pm_gw_of 987 (by decide +kernel) rfl
theorem se_X7_all : Cond.selects RX7 yX7_all yX7_all ∈ pm_gw := pm_gw_of 988 (by decide +kernel) rfl
theorem mok_X7_some : pm_mok mX7_some 2 := ⟨co_X7_some, ini_RX7, ⟨by decide +kernel, by decide +kernel⟩, by decide +kernel, by decide⟩
theorem in_X7_some : Cond.instanceMethod yX7_some ∈ pm_gw := pm_gw_of 992 (by decide +kernel) rfl
theorem se_X7_some : Cond.selects RX7 yX7_some yX7_some ∈ pm_gw := pm_gw_of 993 (by decide +kernel) rfl
theorem mok_X7_tried : pm_mok mX7_tried 3 := ⟨co_X7_tried, ini_RX7, ⟨by decide +kernel, by decide +kernel⟩, by decide +kernel, by decide⟩
theorem in_X7_tried : Cond.instanceMethod yX7_tried ∈ pm_gw := pm_gw_of 997 (by decide +kernel) rfl
theorem se_X7_tried : Cond.selects RX7 yX7_tried yX7_tried ∈ pm_gw := pm_gw_of 998 (by decide +kernel) rfl
theorem mok_X7_pours : pm_mok mX7_pours 2 := ⟨co_X7_pours, ini_RX7, ⟨by decide +kernel, by decide +kernel⟩, by decide +kernel, by decide⟩
theorem st_X7_pours : Cond.static yX7_pours ∈ pm_gw := pm_gw_of 1001 (by decide +kernel) rfl
theorem mok_X7_result : pm_mok mX7_result 1 := ⟨co_X7_result, ini_RX7, ⟨by decide +kernel, by decide +kernel⟩, by decide +kernel, by decide⟩
theorem in_X7_result : Cond.instanceMethod yX7_result ∈ pm_gw := pm_gw_of 1004 (by decide +kernel) rfl
theorem se_X7_result : Cond.selects RX7 yX7_result yX7_result ∈ pm_gw := pm_gw_of 1005 (by decide +kernel) rfl
theorem mok_X7_isKey : pm_mok mX7_isKey 1 := ⟨co_X7_isKey, ini_RX7, ⟨by decide +kernel, by decide +kernel⟩, by decide +kernel, by decide⟩
theorem st_X7_isKey : Cond.static yX7_isKey ∈ pm_gw := pm_gw_of 1008 (by decide +kernel) rfl
theorem mok_X7_toldOf : pm_mok mX7_toldOf 1 := ⟨co_X7_toldOf, ini_RX7, ⟨by decide +kernel, by decide +kernel⟩, by decide +kernel, by decide⟩
theorem in_X7_toldOf : Cond.instanceMethod yX7_toldOf ∈ pm_gw := pm_gw_of 1012 (by decide +kernel) rfl
theorem se_X7_toldOf : Cond.selects RX7 yX7_toldOf yX7_toldOf ∈ pm_gw := pm_gw_of 30 (by decide +kernel) rfl
theorem mok_X7_failure : pm_mok mX7_failure 3 := ⟨co_X7_failure, ini_RX7, ⟨by decide +kernel, by decide +kernel⟩, by decide +kernel, by decide⟩
theorem in_X7_failure : Cond.instanceMethod yX7_failure ∈ pm_gw := pm_gw_of 1016 (by decide +kernel) rfl
theorem se_X7_failure : Cond.selects RX7 yX7_failure yX7_failure ∈ pm_gw := pm_gw_of 1017 (by decide +kernel) rfl
theorem mok_X7_causeOf : pm_mok mX7_causeOf 2 := ⟨co_X7_causeOf, ini_RX7, ⟨by decide +kernel, by decide +kernel⟩, by decide +kernel, by decide⟩
theorem in_X7_causeOf : Cond.instanceMethod yX7_causeOf ∈ pm_gw := pm_gw_of 1022 (by decide +kernel) rfl
theorem se_X7_causeOf : Cond.selects RX7 yX7_causeOf yX7_causeOf ∈ pm_gw := pm_gw_of 31 (by decide +kernel) rfl
theorem mok_X7_causes : pm_mok mX7_causes 1 := ⟨co_X7_causes, ini_RX7, ⟨by decide +kernel, by decide +kernel⟩, by decide +kernel, by decide⟩
theorem in_X7_causes : Cond.instanceMethod yX7_causes ∈ pm_gw := pm_gw_of 1025 (by decide +kernel) rfl
theorem se_X7_causes : Cond.selects RX7 yX7_causes yX7_causes ∈ pm_gw := pm_gw_of 1026 (by decide +kernel) rfl
theorem mok_X7_root : pm_mok mX7_root 1 := ⟨co_X7_root, ini_RX7, ⟨by decide +kernel, by decide +kernel⟩, by decide +kernel, by decide⟩
theorem in_X7_root : Cond.instanceMethod yX7_root ∈ pm_gw := pm_gw_of 1029 (by decide +kernel) rfl
theorem se_X7_root : Cond.selects RX7 yX7_root yX7_root ∈ pm_gw := pm_gw_of 1030 (by decide +kernel) rfl
theorem mok_X7_blamed : pm_mok mX7_blamed 1 := ⟨co_X7_blamed, ini_RX7, ⟨by decide +kernel, by decide +kernel⟩, by decide +kernel, by decide⟩
theorem in_X7_blamed : Cond.instanceMethod yX7_blamed ∈ pm_gw := pm_gw_of 1033 (by decide +kernel) rfl
theorem se_X7_blamed : Cond.selects RX7 yX7_blamed yX7_blamed ∈ pm_gw := pm_gw_of 1034 (by decide +kernel) rfl
theorem mok_X7_trace : pm_mok mX7_trace 2 := ⟨co_X7_trace, ini_RX7, ⟨by decide +kernel, by decide +kernel⟩, by decide +kernel, by decide⟩
theorem in_X7_trace : Cond.instanceMethod yX7_trace ∈ pm_gw := pm_gw_of 1037 (by decide +kernel) rfl
theorem se_X7_trace : Cond.selects RX7 yX7_trace yX7_trace ∈ pm_gw := pm_gw_of 1038 (by decide +kernel) rfl
theorem mok_X7_amiss : pm_mok mX7_amiss 2 := ⟨co_X7_amiss, ini_RX7, ⟨by decide +kernel, by decide +kernel⟩, by decide +kernel, by decide⟩
theorem in_X7_amiss : Cond.instanceMethod yX7_amiss ∈ pm_gw := pm_gw_of 1042 (by decide +kernel) rfl
theorem se_X7_amiss : Cond.selects RX7 yX7_amiss yX7_amiss ∈ pm_gw := pm_gw_of 32 (by decide +kernel) rfl
theorem mok_X7_seen : pm_mok mX7_seen 2 := ⟨co_X7_seen, ini_RX7, ⟨by decide +kernel, by decide +kernel⟩, by decide +kernel, by decide⟩
theorem in_X7_seen : Cond.instanceMethod yX7_seen ∈ pm_gw := pm_gw_of 1045 (by decide +kernel) rfl
theorem se_X7_seen : Cond.selects RX7 yX7_seen yX7_seen ∈ pm_gw := pm_gw_of 1046 (by decide +kernel) rfl
theorem mok_X7_users : pm_mok mX7_users 1 := ⟨co_X7_users, ini_RX7, ⟨by decide +kernel, by decide +kernel⟩, by decide +kernel, by decide⟩
theorem in_X7_users : Cond.instanceMethod yX7_users ∈ pm_gw := pm_gw_of 1049 (by decide +kernel) rfl
theorem se_X7_users : Cond.selects RX7 yX7_users yX7_users ∈ pm_gw := pm_gw_of 1050 (by decide +kernel) rfl
theorem mok_X7_isTraced : pm_mok mX7_isTraced 2 := ⟨co_X7_isTraced, ini_RX7, ⟨by decide +kernel, by decide +kernel⟩, by decide +kernel, by decide⟩
theorem in_X7_isTraced : Cond.instanceMethod yX7_isTraced ∈ pm_gw := pm_gw_of 1054 (by decide +kernel) rfl
theorem se_X7_isTraced : Cond.selects RX7 yX7_isTraced yX7_isTraced ∈ pm_gw := pm_gw_of 33 (by decide +kernel) rfl
theorem mok_X7_depth : pm_mok mX7_depth 1 := ⟨co_X7_depth, ini_RX7, ⟨by decide +kernel, by decide +kernel⟩, by decide +kernel, by decide⟩
theorem in_X7_depth : Cond.instanceMethod yX7_depth ∈ pm_gw := pm_gw_of 1057 (by decide +kernel) rfl
theorem se_X7_depth : Cond.selects RX7 yX7_depth yX7_depth ∈ pm_gw := pm_gw_of 1058 (by decide +kernel) rfl
theorem mok_X7_order : pm_mok mX7_order 1 := ⟨co_X7_order, ini_RX7, ⟨by decide +kernel, by decide +kernel⟩, by decide +kernel, by decide⟩
theorem in_X7_order : Cond.instanceMethod yX7_order ∈ pm_gw := pm_gw_of 1062 (by decide +kernel) rfl
theorem se_X7_order : Cond.selects RX7 yX7_order yX7_order ∈ pm_gw := pm_gw_of 1063 (by decide +kernel) rfl
theorem mok_X7_unlike : pm_mok mX7_unlike 0 := ⟨co_X7_unlike, ini_RX7, ⟨by decide +kernel, by decide +kernel⟩, by decide +kernel, by decide⟩
theorem in_X7_unlike : Cond.instanceMethod yX7_unlike ∈ pm_gw := pm_gw_of 1066 (by decide +kernel) rfl
theorem se_X7_unlike : Cond.selects RX7 yX7_unlike yX7_unlike ∈ pm_gw := pm_gw_of 1067 (by decide +kernel) rfl
theorem mok_X7_fresh : pm_mok mX7_fresh 0 := ⟨co_X7_fresh, ini_RX7, ⟨by decide +kernel, by decide +kernel⟩, by decide +kernel, by decide⟩
theorem in_X7_fresh : Cond.instanceMethod yX7_fresh ∈ pm_gw := pm_gw_of 1070 (by decide +kernel) rfl
theorem se_X7_fresh : Cond.selects RX7 yX7_fresh yX7_fresh ∈ pm_gw := pm_gw_of 1071 (by decide +kernel) rfl
theorem mok_X7_forget : pm_mok mX7_forget 1 := ⟨co_X7_forget, ini_RX7, ⟨by decide +kernel, by decide +kernel⟩, by decide +kernel, by decide⟩
theorem in_X7_forget : Cond.instanceMethod yX7_forget ∈ pm_gw := pm_gw_of 1074 (by decide +kernel) rfl
theorem se_X7_forget : Cond.selects RX7 yX7_forget yX7_forget ∈ pm_gw := pm_gw_of 1075 (by decide +kernel) rfl
theorem mok_X7_told : pm_mok mX7_told 1 := ⟨co_X7_told, ini_RX7, ⟨by decide +kernel, by decide +kernel⟩, by decide +kernel, by decide⟩
theorem in_X7_told : Cond.instanceMethod yX7_told ∈ pm_gw := pm_gw_of 1078 (by decide +kernel) rfl
theorem se_X7_told : Cond.selects RX7 yX7_told yX7_told ∈ pm_gw := pm_gw_of 1079 (by decide +kernel) rfl
theorem mok_X7_having : pm_mok mX7_having 1 := ⟨co_X7_having, ini_RX7, ⟨by decide +kernel, by decide +kernel⟩, by decide +kernel, by decide⟩
theorem in_X7_having : Cond.instanceMethod yX7_having ∈ pm_gw := pm_gw_of 1083 (by decide +kernel) rfl
theorem se_X7_having : Cond.selects RX7 yX7_having yX7_having ∈ pm_gw := pm_gw_of 34 (by decide +kernel) rfl
theorem mok_X7_list : pm_mok mX7_list 2 := ⟨co_X7_list, ini_RX7, ⟨by decide +kernel, by decide +kernel⟩, by decide +kernel, by decide⟩
theorem in_X7_list : Cond.instanceMethod yX7_list ∈ pm_gw := pm_gw_of 1086 (by decide +kernel) rfl
theorem se_X7_list : Cond.selects RX7 yX7_list yX7_list ∈ pm_gw := pm_gw_of 1087 (by decide +kernel) rfl
theorem mok_X7_isList : pm_mok mX7_isList 1 := ⟨co_X7_isList, ini_RX7, ⟨by decide +kernel, by decide +kernel⟩, by decide +kernel, by decide⟩
theorem st_X7_isList : Cond.static yX7_isList ∈ pm_gw := pm_gw_of 1090 (by decide +kernel) rfl
theorem mok_X7_put : pm_mok mX7_put 3 := ⟨co_X7_put, ini_RX7, ⟨by decide +kernel, by decide +kernel⟩, by decide +kernel, by decide⟩
theorem in_X7_put : Cond.instanceMethod yX7_put ∈ pm_gw := pm_gw_of 1094 (by decide +kernel) rfl
theorem se_X7_put : Cond.selects RX7 yX7_put yX7_put ∈ pm_gw := pm_gw_of 1095 (by decide +kernel) rfl
theorem mok_X7_get : pm_mok mX7_get 2 := ⟨co_X7_get, ini_RX7, ⟨by decide +kernel, by decide +kernel⟩, by decide +kernel, by decide⟩
theorem in_X7_get : Cond.instanceMethod yX7_get ∈ pm_gw := pm_gw_of 1098 (by decide +kernel) rfl
theorem se_X7_get : Cond.selects RX7 yX7_get yX7_get ∈ pm_gw := pm_gw_of 1099 (by decide +kernel) rfl
theorem mok_X7_move : pm_mok mX7_move 5 := ⟨co_X7_move, ini_RX7, ⟨by decide +kernel, by decide +kernel⟩, by decide +kernel, by decide⟩
theorem in_X7_move : Cond.instanceMethod yX7_move ∈ pm_gw := pm_gw_of 1103 (by decide +kernel) rfl
theorem se_X7_move : Cond.selects RX7 yX7_move yX7_move ∈ pm_gw := pm_gw_of 1104 (by decide +kernel) rfl
theorem mok_X7_lay : pm_mok mX7_lay 2 := ⟨co_X7_lay, ini_RX7, ⟨by decide +kernel, by decide +kernel⟩, by decide +kernel, by decide⟩
theorem in_X7_lay : Cond.instanceMethod yX7_lay ∈ pm_gw := pm_gw_of 1107 (by decide +kernel) rfl
theorem se_X7_lay : Cond.selects RX7 yX7_lay yX7_lay ∈ pm_gw := pm_gw_of 1108 (by decide +kernel) rfl
theorem mok_X7_judge : pm_mok mX7_judge 2 := ⟨co_X7_judge, ini_RX7, ⟨by decide +kernel, by decide +kernel⟩, by decide +kernel, by decide⟩
theorem in_X7_judge : Cond.instanceMethod yX7_judge ∈ pm_gw := pm_gw_of 1111 (by decide +kernel) rfl
theorem se_X7_judge : Cond.selects RX7 yX7_judge yX7_judge ∈ pm_gw := pm_gw_of 1112 (by decide +kernel) rfl
theorem mok_X7_image : pm_mok mX7_image 0 := ⟨co_X7_image, ini_RX7, ⟨by decide +kernel, by decide +kernel⟩, by decide +kernel, by decide⟩
theorem in_X7_image : Cond.instanceMethod yX7_image ∈ pm_gw := pm_gw_of 1115 (by decide +kernel) rfl
theorem se_X7_image : Cond.selects RX7 yX7_image yX7_image ∈ pm_gw := pm_gw_of 1116 (by decide +kernel) rfl
theorem mok_X7_undo : pm_mok mX7_undo 0 := ⟨co_X7_undo, ini_RX7, ⟨by decide +kernel, by decide +kernel⟩, by decide +kernel, by decide⟩
theorem in_X7_undo : Cond.instanceMethod yX7_undo ∈ pm_gw := pm_gw_of 1119 (by decide +kernel) rfl
theorem se_X7_undo : Cond.selects RX7 yX7_undo yX7_undo ∈ pm_gw := pm_gw_of 1120 (by decide +kernel) rfl
theorem ins_RX6 : Cond.instantiable RX6 7 ∈ pm_gw := pm_gw_of 48 (by decide +kernel) rfl
theorem ins_RX0 : Cond.instantiable RX0 11 ∈ pm_gw := pm_gw_of 56 (by decide +kernel) rfl
theorem ins_RX5 : Cond.instantiable RX5 4 ∈ pm_gw := pm_gw_of 62 (by decide +kernel) rfl
theorem ins_RX4 : Cond.instantiable RX4 7 ∈ pm_gw := pm_gw_of 71 (by decide +kernel) rfl
theorem ins_RX1 : Cond.instantiable RX1 5 ∈ pm_gw := pm_gw_of 113 (by decide +kernel) rfl
theorem ins_RX3 : Cond.instantiable RX3 2 ∈ pm_gw := pm_gw_of 198 (by decide +kernel) rfl
theorem ins_RX2 : Cond.instantiable RX2 3 ∈ pm_gw := pm_gw_of 214 (by decide +kernel) rfl
theorem ins_RX7 : Cond.instantiable RX7 29 ∈ pm_gw := pm_gw_of 755 (by decide +kernel) rfl
theorem arc_int : Cond.arrayClass .int ∈ pm_gw := pm_gw_of 108 (by decide +kernel) rfl
theorem arc_long : Cond.arrayClass .long ∈ pm_gw := pm_gw_of 231 (by decide +kernel) rfl
theorem arc_boolean : Cond.arrayClass .boolean ∈ pm_gw := pm_gw_of 848 (by decide +kernel) rfl
theorem aro_RX1 : Cond.arrayOver (.object RX1) ∈ lw_tbl := List.mem_of_getElem? (i := 68) (by decide +kernel)
theorem aro_RX4 : Cond.arrayOver (.object RX4) ∈ lw_tbl := List.mem_of_getElem? (i := 70) (by decide +kernel)
theorem aro_RX2 : Cond.arrayOver (.object RX2) ∈ lw_tbl := List.mem_of_getElem? (i := 213) (by decide +kernel)
theorem lk_X6_5 : Cond.methodLink RX6 5 objectInit ∈ pm_gw := pm_gw_of 52 (by decide +kernel) rfl
theorem cl_X6_11 : Cond.classLink RX6 11 RX0 ∈ pm_gw := pm_gw_of 55 (by decide +kernel) rfl
theorem lk_X6_13 : pm_lkN RX6 13 yX0_init := ⟨"BuildEngine", List.mem_of_getElem? (i := 57) (by decide +kernel)⟩
theorem fk_X6_14 : Cond.fieldLink RX6 14 RX6 (TX6 0).2.1 (TX6 0).2.2.1 ∈ pm_gw := pm_gw_of 232 (by decide +kernel) rfl
theorem fl_X6_14 : pm_fl RX6 14 6 0 := ⟨(RX6, TX6, 7), rfl, by decide, rfl, fk_X6_14⟩
theorem fp_X6_14 : pm_fp RX6 14 6 0 true (.object "BuildEngine$Builder") := ⟨(RX6, TX6, 7), rfl, by decide, rfl, fk_X6_14, rfl, by decide +kernel⟩
theorem fk_X6_18 : Cond.fieldLink RX6 18 RX6 (TX6 1).2.1 (TX6 1).2.2.1 ∈ pm_gw := pm_gw_of 233 (by decide +kernel) rfl
theorem fl_X6_18 : pm_fl RX6 18 6 1 := ⟨(RX6, TX6, 7), rfl, by decide, rfl, fk_X6_18⟩
theorem fp_X6_18 : pm_fp RX6 18 6 1 true (.object "BuildEngine$Builder") := ⟨(RX6, TX6, 7), rfl, by decide, rfl, fk_X6_18, rfl, by decide +kernel⟩
theorem fk_X6_21 : Cond.fieldLink RX6 21 RX0 (TX0 0).2.1 (TX0 0).2.2.1 ∈ pm_gw := pm_gw_of 155 (by decide +kernel) rfl
theorem fl_X6_21 : pm_fl RX6 21 0 0 := ⟨(RX0, TX0, 11), rfl, by decide, rfl, fk_X6_21⟩
theorem fk_X6_25 : Cond.fieldLink RX6 25 RX6 (TX6 2).2.1 (TX6 2).2.2.1 ∈ pm_gw := pm_gw_of 234 (by decide +kernel) rfl
theorem fl_X6_25 : pm_fl RX6 25 6 2 := ⟨(RX6, TX6, 7), rfl, by decide, rfl, fk_X6_25⟩
theorem fp_X6_25 : pm_fp RX6 25 6 2 true (.object "BuildEngine$World") := ⟨(RX6, TX6, 7), rfl, by decide, rfl, fk_X6_25, rfl, by decide +kernel⟩
theorem cl_X6_26 : Cond.classLink RX6 26 RX5 ∈ pm_gw := pm_gw_of 195 (by decide +kernel) rfl
theorem lk_X6_28 : Cond.methodLink RX6 28 yX5_init ∈ pm_gw := pm_gw_of 196 (by decide +kernel) rfl
theorem fk_X6_29 : Cond.fieldLink RX6 29 RX6 (TX6 3).2.1 (TX6 3).2.2.1 ∈ pm_gw := pm_gw_of 235 (by decide +kernel) rfl
theorem fl_X6_29 : pm_fl RX6 29 6 3 := ⟨(RX6, TX6, 7), rfl, by decide, rfl, fk_X6_29⟩
theorem fp_X6_29 : pm_fp RX6 29 6 3 true (.object "BuildEngine$World") := ⟨(RX6, TX6, 7), rfl, by decide, rfl, fk_X6_29, rfl, by decide +kernel⟩
theorem cl_X6_32 : Cond.classLink RX6 32 RX3 ∈ pm_gw := pm_gw_of 197 (by decide +kernel) rfl
theorem lk_X6_34 : pm_lkN RX6 34 yX3_init := ⟨"BuildEngine", List.mem_of_getElem? (i := 199) (by decide +kernel)⟩
theorem fk_X6_35 : Cond.fieldLink RX6 35 RX6 (TX6 4).2.1 (TX6 4).2.2.1 ∈ pm_gw := pm_gw_of 236 (by decide +kernel) rfl
theorem fl_X6_35 : pm_fl RX6 35 6 4 := ⟨(RX6, TX6, 7), rfl, by decide, rfl, fk_X6_35⟩
theorem fp_X6_35 : pm_fp RX6 35 6 4 true (.object "BuildEngine$Tape") := ⟨(RX6, TX6, 7), rfl, by decide, rfl, fk_X6_35, rfl, by decide +kernel⟩
theorem cl_X6_39 : Cond.classLink RX6 39 RX2 ∈ pm_gw := pm_gw_of 212 (by decide +kernel) rfl
theorem fk_X6_41 : Cond.fieldLink RX6 41 RX6 (TX6 5).2.1 (TX6 5).2.2.1 ∈ pm_gw := pm_gw_of 237 (by decide +kernel) rfl
theorem fl_X6_41 : pm_fl RX6 41 6 5 := ⟨(RX6, TX6, 7), rfl, by decide, rfl, fk_X6_41⟩
theorem fp_X6_41 : pm_fp RX6 41 6 5 true (.array (.object "BuildEngine$Row")) := ⟨(RX6, TX6, 7), rfl, by decide, rfl, fk_X6_41, rfl, by decide +kernel⟩
theorem lk_X6_45 : pm_lkN RX6 45 yX2_init := ⟨"BuildEngine", List.mem_of_getElem? (i := 215) (by decide +kernel)⟩
theorem lk_X6_46 : Cond.methodLink RX6 46 yX6_isInput ∈ pm_gw := pm_gw_of 258 (by decide +kernel) rfl
theorem lk_X6_50 : Cond.methodLink RX6 50 yX6_isContent ∈ pm_gw := pm_gw_of 261 (by decide +kernel) rfl
theorem lk_X6_54 : Cond.methodLink RX6 54 yX5_giveContent ∈ pm_gw := pm_gw_of 266 (by decide +kernel) rfl
theorem lk_X6_58 : Cond.methodLink RX6 58 yX5_contentOf ∈ pm_gw := pm_gw_of 282 (by decide +kernel) rfl
theorem lk_X6_62 : Cond.methodLink RX6 62 yX5_takeContent ∈ pm_gw := pm_gw_of 283 (by decide +kernel) rfl
theorem fk_X6_66 : Cond.fieldLink RX6 66 RX1 (TX1 0).2.1 (TX1 0).2.2.1 ∈ pm_gw := pm_gw_of 119 (by decide +kernel) rfl
theorem fl_X6_66 : pm_fl RX6 66 1 0 := ⟨(RX1, TX1, 5), rfl, by decide, rfl, fk_X6_66⟩
theorem lk_X6_72 : Cond.methodLink RX6 72 yX3_append ∈ pm_gw := pm_gw_of 291 (by decide +kernel) rfl
theorem fk_X6_75 : Cond.fieldLink RX6 75 RX3 (TX3 1).2.1 (TX3 1).2.2.1 ∈ pm_gw := pm_gw_of 206 (by decide +kernel) rfl
theorem fl_X6_75 : pm_fl RX6 75 3 1 := ⟨(RX3, TX3, 2), rfl, by decide, rfl, fk_X6_75⟩
theorem lk_X6_78 : Cond.methodLink RX6 78 yX3_empty ∈ pm_gw := pm_gw_of 299 (by decide +kernel) rfl
theorem lk_X6_82 : Cond.methodLink RX6 82 yX5_targetOf ∈ pm_gw := pm_gw_of 307 (by decide +kernel) rfl
theorem lk_X6_86 : Cond.methodLink RX6 86 yX3_faultAsRule ∈ pm_gw := pm_gw_of 314 (by decide +kernel) rfl
theorem lk_X6_89 : Cond.methodLink RX6 89 yX4_readRule ∈ pm_gw := pm_gw_of 343 (by decide +kernel) rfl
theorem fk_X6_95 : Cond.fieldLink RX6 95 RX4 (TX4 0).2.1 (TX4 0).2.2.1 ∈ pm_gw := pm_gw_of 78 (by decide +kernel) rfl
theorem fl_X6_95 : pm_fl RX6 95 4 0 := ⟨(RX4, TX4, 7), rfl, by decide, rfl, fk_X6_95⟩
theorem lk_X6_98 : Cond.methodLink RX6 98 yX4_dropRule ∈ pm_gw := pm_gw_of 360 (by decide +kernel) rfl
theorem lk_X6_101 : Cond.methodLink RX6 101 yX4_takeRule ∈ pm_gw := pm_gw_of 368 (by decide +kernel) rfl
theorem lk_X6_105 : Cond.methodLink RX6 105 yX4_signAt ∈ pm_gw := pm_gw_of 383 (by decide +kernel) rfl
theorem lk_X6_109 : Cond.methodLink RX6 109 yX4_figuresAt ∈ pm_gw := pm_gw_of 387 (by decide +kernel) rfl
theorem lk_X6_112 : Cond.methodLink RX6 112 yX6_isTarget ∈ pm_gw := pm_gw_of 395 (by decide +kernel) rfl
theorem lk_X6_115 : Cond.methodLink RX6 115 yX0_startsFor ∈ pm_gw := pm_gw_of 396 (by decide +kernel) rfl
theorem lk_X6_118 : Cond.methodLink RX6 118 yX6_isStops ∈ pm_gw := pm_gw_of 513 (by decide +kernel) rfl
theorem kc_X6_121 : Cond.constant RX6 121 (65535) ∈ pm_gw := pm_gw_of 516 (by decide +kernel) rfl
theorem lk_X6_122 : Cond.methodLink RX6 122 yX0_buildEach ∈ pm_gw := pm_gw_of 517 (by decide +kernel) rfl
theorem lk_X6_126 : Cond.methodLink RX6 126 yX5_copyFrom ∈ pm_gw := pm_gw_of 526 (by decide +kernel) rfl
theorem lk_X6_130 : Cond.methodLink RX6 130 yX6_isKey ∈ pm_gw := pm_gw_of 538 (by decide +kernel) rfl
theorem lk_X6_133 : Cond.methodLink RX6 133 yX5_toldResult ∈ pm_gw := pm_gw_of 539 (by decide +kernel) rfl
theorem lk_X6_136 : Cond.methodLink RX6 136 yX5_failureOf ∈ pm_gw := pm_gw_of 554 (by decide +kernel) rfl
theorem fk_X6_139 : Cond.fieldLink RX6 139 RX1 (TX1 4).2.1 (TX1 4).2.2.1 ∈ pm_gw := pm_gw_of 129 (by decide +kernel) rfl
theorem fl_X6_139 : pm_fl RX6 139 1 4 := ⟨(RX1, TX1, 5), rfl, by decide, rfl, fk_X6_139⟩
theorem fk_X6_143 : Cond.fieldLink RX6 143 RX1 (TX1 1).2.1 (TX1 1).2.2.1 ∈ pm_gw := pm_gw_of 123 (by decide +kernel) rfl
theorem fl_X6_143 : pm_fl RX6 143 1 1 := ⟨(RX1, TX1, 5), rfl, by decide, rfl, fk_X6_143⟩
theorem fk_X6_146 : Cond.fieldLink RX6 146 RX1 (TX1 2).2.1 (TX1 2).2.2.1 ∈ pm_gw := pm_gw_of 125 (by decide +kernel) rfl
theorem fl_X6_146 : pm_fl RX6 146 1 2 := ⟨(RX1, TX1, 5), rfl, by decide, rfl, fk_X6_146⟩
theorem fk_X6_149 : Cond.fieldLink RX6 149 RX1 (TX1 3).2.1 (TX1 3).2.2.1 ∈ pm_gw := pm_gw_of 127 (by decide +kernel) rfl
theorem fl_X6_149 : pm_fl RX6 149 1 3 := ⟨(RX1, TX1, 5), rfl, by decide, rfl, fk_X6_149⟩
theorem lk_X6_152 : Cond.methodLink RX6 152 yX1_causeCount ∈ pm_gw := pm_gw_of 559 (by decide +kernel) rfl
theorem lk_X6_155 : Cond.methodLink RX6 155 yX1_rootKey ∈ pm_gw := pm_gw_of 567 (by decide +kernel) rfl
theorem lk_X6_158 : Cond.methodLink RX6 158 yX5_targetsFailingBy ∈ pm_gw := pm_gw_of 575 (by decide +kernel) rfl
theorem lk_X6_161 : Cond.methodLink RX6 161 yX4_hasTrace ∈ pm_gw := pm_gw_of 588 (by decide +kernel) rfl
theorem fk_X6_165 : Cond.fieldLink RX6 165 RX4 (TX4 4).2.1 (TX4 4).2.2.1 ∈ pm_gw := pm_gw_of 90 (by decide +kernel) rfl
theorem fl_X6_165 : pm_fl RX6 165 4 4 := ⟨(RX4, TX4, 7), rfl, by decide, rfl, fk_X6_165⟩
theorem lk_X6_168 : Cond.methodLink RX6 168 yX4_tracedKey ∈ pm_gw := pm_gw_of 589 (by decide +kernel) rfl
theorem lk_X6_171 : Cond.methodLink RX6 171 yX4_tracedResult ∈ pm_gw := pm_gw_of 594 (by decide +kernel) rfl
theorem lk_X6_174 : Cond.methodLink RX6 174 yX1_asTold ∈ pm_gw := pm_gw_of 595 (by decide +kernel) rfl
theorem lk_X6_177 : Cond.methodLink RX6 177 yX5_targetsTracing ∈ pm_gw := pm_gw_of 600 (by decide +kernel) rfl
theorem lk_X6_180 : Cond.methodLink RX6 180 yX5_depthOf ∈ pm_gw := pm_gw_of 609 (by decide +kernel) rfl
theorem lk_X6_183 : Cond.methodLink RX6 183 yX0_doneAt ∈ pm_gw := pm_gw_of 632 (by decide +kernel) rfl
theorem lk_X6_186 : Cond.methodLink RX6 186 yX5_unlikeResults ∈ pm_gw := pm_gw_of 640 (by decide +kernel) rfl
theorem lk_X6_189 : Cond.methodLink RX6 189 yX5_targetsUpToDate ∈ pm_gw := pm_gw_of 653 (by decide +kernel) rfl
theorem fk_X6_192 : Cond.fieldLink RX6 192 RX4 (TX4 3).2.1 (TX4 3).2.2.1 ∈ pm_gw := pm_gw_of 86 (by decide +kernel) rfl
theorem fl_X6_192 : pm_fl RX6 192 4 3 := ⟨(RX4, TX4, 7), rfl, by decide, rfl, fk_X6_192⟩
theorem fp_X6_192 : pm_fp RX6 192 4 3 false (.object "BuildEngine$Result") := ⟨(RX4, TX4, 7), rfl, by decide, rfl, fk_X6_192, rfl, by decide +kernel⟩
theorem lk_X6_195 : Cond.methodLink RX6 195 yX4_dropTrace ∈ pm_gw := pm_gw_of 667 (by decide +kernel) rfl
theorem fk_X6_198 : Cond.fieldLink RX6 198 RX0 (TX0 6).2.1 (TX0 6).2.2.1 ∈ pm_gw := pm_gw_of 164 (by decide +kernel) rfl
theorem fl_X6_198 : pm_fl RX6 198 0 6 := ⟨(RX0, TX0, 11), rfl, by decide, rfl, fk_X6_198⟩
theorem fk_X6_201 : Cond.fieldLink RX6 201 RX0 (TX0 7).2.1 (TX0 7).2.2.1 ∈ pm_gw := pm_gw_of 166 (by decide +kernel) rfl
theorem fl_X6_201 : pm_fl RX6 201 0 7 := ⟨(RX0, TX0, 11), rfl, by decide, rfl, fk_X6_201⟩
theorem fk_X6_204 : Cond.fieldLink RX6 204 RX0 (TX0 8).2.1 (TX0 8).2.2.1 ∈ pm_gw := pm_gw_of 168 (by decide +kernel) rfl
theorem fl_X6_204 : pm_fl RX6 204 0 8 := ⟨(RX0, TX0, 11), rfl, by decide, rfl, fk_X6_204⟩
theorem fk_X6_207 : Cond.fieldLink RX6 207 RX0 (TX0 9).2.1 (TX0 9).2.2.1 ∈ pm_gw := pm_gw_of 170 (by decide +kernel) rfl
theorem fl_X6_207 : pm_fl RX6 207 0 9 := ⟨(RX0, TX0, 11), rfl, by decide, rfl, fk_X6_207⟩
theorem lk_X6_210 : Cond.methodLink RX6 210 yX5_ruleCount ∈ pm_gw := pm_gw_of 672 (by decide +kernel) rfl
theorem lk_X6_213 : Cond.methodLink RX6 213 yX5_resultCount ∈ pm_gw := pm_gw_of 676 (by decide +kernel) rfl
theorem lk_X6_216 : Cond.methodLink RX6 216 yX5_failureCount ∈ pm_gw := pm_gw_of 680 (by decide +kernel) rfl
theorem lk_X6_219 : Cond.methodLink RX6 219 yX5_traceCount ∈ pm_gw := pm_gw_of 684 (by decide +kernel) rfl
theorem fk_X6_222 : Cond.fieldLink RX6 222 RX0 (TX0 2).2.1 (TX0 2).2.2.1 ∈ pm_gw := pm_gw_of 158 (by decide +kernel) rfl
theorem fl_X6_222 : pm_fl RX6 222 0 2 := ⟨(RX0, TX0, 11), rfl, by decide, rfl, fk_X6_222⟩
theorem fk_X6_225 : Cond.fieldLink RX6 225 RX0 (TX0 5).2.1 (TX0 5).2.2.1 ∈ pm_gw := pm_gw_of 162 (by decide +kernel) rfl
theorem fl_X6_225 : pm_fl RX6 225 0 5 := ⟨(RX0, TX0, 11), rfl, by decide, rfl, fk_X6_225⟩
theorem lk_X6_228 : Cond.methodLink RX6 228 yX6_rowOf ∈ pm_gw := pm_gw_of 692 (by decide +kernel) rfl
theorem lk_X6_232 : Cond.methodLink RX6 232 yX2_hold ∈ pm_gw := pm_gw_of 696 (by decide +kernel) rfl
theorem fk_X6_235 : Cond.fieldLink RX6 235 RX2 (TX2 0).2.1 (TX2 0).2.2.1 ∈ pm_gw := pm_gw_of 220 (by decide +kernel) rfl
theorem fl_X6_235 : pm_fl RX6 235 2 0 := ⟨(RX2, TX2, 3), rfl, by decide, rfl, fk_X6_235⟩
theorem lk_X6_239 : Cond.methodLink RX6 239 yX2_write ∈ pm_gw := pm_gw_of 709 (by decide +kernel) rfl
theorem kc_X6_243 : Cond.constantLong RX6 243 (-9223372036854775808) ∈ pm_gw := pm_gw_of 721 (by decide +kernel) rfl
theorem lk_X6_245 : Cond.methodLink RX6 245 yX2_read ∈ pm_gw := pm_gw_of 722 (by decide +kernel) rfl
theorem lk_X6_249 : Cond.methodLink RX6 249 yX2_hasSpan ∈ pm_gw := pm_gw_of 731 (by decide +kernel) rfl
theorem fk_X6_252 : Cond.fieldLink RX6 252 RX2 (TX2 1).2.1 (TX2 1).2.2.1 ∈ pm_gw := pm_gw_of 222 (by decide +kernel) rfl
theorem fl_X6_252 : pm_fl RX6 252 2 1 := ⟨(RX2, TX2, 3), rfl, by decide, rfl, fk_X6_252⟩
theorem lk_X6_256 : Cond.methodLink RX6 256 arraycopyName ∈ pm_gw := pm_gw_of 735 (by decide +kernel) rfl
theorem lk_X6_262 : Cond.methodLink RX6 262 yX2_hasPlace ∈ pm_gw := pm_gw_of 744 (by decide +kernel) rfl
theorem fk_X6_265 : Cond.fieldLink RX6 265 RX6 (TX6 6).2.1 (TX6 6).2.2.1 ∈ pm_gw := pm_gw_of 238 (by decide +kernel) rfl
theorem fl_X6_265 : pm_fl RX6 265 6 6 := ⟨(RX6, TX6, 7), rfl, by decide, rfl, fk_X6_265⟩
theorem fp_X6_265 : pm_fp RX6 265 6 6 false .boolean := ⟨(RX6, TX6, 7), rfl, by decide, rfl, fk_X6_265, rfl, by decide +kernel⟩
theorem lk_X6_268 : Cond.methodLink RX6 268 yX0_forgetBuild ∈ pm_gw := pm_gw_of 753 (by decide +kernel) rfl
theorem kc_X6_271 : Cond.constantLong RX6 271 (-1000000) ∈ pm_gw := pm_gw_of 264 (by decide +kernel) rfl
theorem kc_X6_273 : Cond.constantLong RX6 273 (1000000) ∈ pm_gw := pm_gw_of 265 (by decide +kernel) rfl
theorem lk_X6_275 : Cond.methodLink RX6 275 yX6_asksForKey ∈ pm_gw := pm_gw_of 325 (by decide +kernel) rfl
theorem lk_X0_3 : Cond.methodLink RX0 3 objectInit ∈ pm_gw := pm_gw_of 60 (by decide +kernel) rfl
theorem cl_X0_9 : Cond.classLink RX0 9 RX5 ∈ pm_gw := pm_gw_of 61 (by decide +kernel) rfl
theorem lk_X0_11 : Cond.methodLink RX0 11 yX5_init ∈ pm_gw := pm_gw_of 63 (by decide +kernel) rfl
theorem fk_X0_12 : Cond.fieldLink RX0 12 RX0 (TX0 0).2.1 (TX0 0).2.2.1 ∈ pm_gw := pm_gw_of 154 (by decide +kernel) rfl
theorem fl_X0_12 : pm_fl RX0 12 0 0 := ⟨(RX0, TX0, 11), rfl, by decide, rfl, fk_X0_12⟩
theorem fp_X0_12 : pm_fp RX0 12 0 0 true (.object "BuildEngine$World") := ⟨(RX0, TX0, 11), rfl, by decide, rfl, fk_X0_12, rfl, by decide +kernel⟩
theorem fk_X0_18 : Cond.fieldLink RX0 18 RX0 (TX0 1).2.1 (TX0 1).2.2.1 ∈ pm_gw := pm_gw_of 156 (by decide +kernel) rfl
theorem fl_X0_18 : pm_fl RX0 18 0 1 := ⟨(RX0, TX0, 11), rfl, by decide, rfl, fk_X0_18⟩
theorem fp_X0_18 : pm_fp RX0 18 0 1 true (.array .int) := ⟨(RX0, TX0, 11), rfl, by decide, rfl, fk_X0_18, rfl, by decide +kernel⟩
theorem fk_X0_22 : Cond.fieldLink RX0 22 RX0 (TX0 5).2.1 (TX0 5).2.2.1 ∈ pm_gw := pm_gw_of 161 (by decide +kernel) rfl
theorem fl_X0_22 : pm_fl RX0 22 0 5 := ⟨(RX0, TX0, 11), rfl, by decide, rfl, fk_X0_22⟩
theorem fp_X0_22 : pm_fp RX0 22 0 5 false .int := ⟨(RX0, TX0, 11), rfl, by decide, rfl, fk_X0_22, rfl, by decide +kernel⟩
theorem fk_X0_26 : Cond.fieldLink RX0 26 RX0 (TX0 2).2.1 (TX0 2).2.2.1 ∈ pm_gw := pm_gw_of 157 (by decide +kernel) rfl
theorem fl_X0_26 : pm_fl RX0 26 0 2 := ⟨(RX0, TX0, 11), rfl, by decide, rfl, fk_X0_26⟩
theorem fp_X0_26 : pm_fp RX0 26 0 2 false .int := ⟨(RX0, TX0, 11), rfl, by decide, rfl, fk_X0_26, rfl, by decide +kernel⟩
theorem fk_X0_29 : Cond.fieldLink RX0 29 RX0 (TX0 3).2.1 (TX0 3).2.2.1 ∈ pm_gw := pm_gw_of 159 (by decide +kernel) rfl
theorem fl_X0_29 : pm_fl RX0 29 0 3 := ⟨(RX0, TX0, 11), rfl, by decide, rfl, fk_X0_29⟩
theorem fp_X0_29 : pm_fp RX0 29 0 3 false .int := ⟨(RX0, TX0, 11), rfl, by decide, rfl, fk_X0_29, rfl, by decide +kernel⟩
theorem fk_X0_32 : Cond.fieldLink RX0 32 RX0 (TX0 4).2.1 (TX0 4).2.2.1 ∈ pm_gw := pm_gw_of 160 (by decide +kernel) rfl
theorem fl_X0_32 : pm_fl RX0 32 0 4 := ⟨(RX0, TX0, 11), rfl, by decide, rfl, fk_X0_32⟩
theorem fp_X0_32 : pm_fp RX0 32 0 4 false .int := ⟨(RX0, TX0, 11), rfl, by decide, rfl, fk_X0_32, rfl, by decide +kernel⟩
theorem fk_X0_35 : Cond.fieldLink RX0 35 RX0 (TX0 6).2.1 (TX0 6).2.2.1 ∈ pm_gw := pm_gw_of 163 (by decide +kernel) rfl
theorem fl_X0_35 : pm_fl RX0 35 0 6 := ⟨(RX0, TX0, 11), rfl, by decide, rfl, fk_X0_35⟩
theorem fp_X0_35 : pm_fp RX0 35 0 6 false .int := ⟨(RX0, TX0, 11), rfl, by decide, rfl, fk_X0_35, rfl, by decide +kernel⟩
theorem lk_X0_38 : Cond.methodLink RX0 38 yX0_bitOf ∈ pm_gw := pm_gw_of 400 (by decide +kernel) rfl
theorem lk_X0_42 : Cond.methodLink RX0 42 yX0_buildEach ∈ pm_gw := pm_gw_of 404 (by decide +kernel) rfl
theorem lk_X0_46 : Cond.methodLink RX0 46 yX0_forgetBuild ∈ pm_gw := pm_gw_of 408 (by decide +kernel) rfl
theorem lk_X0_49 : Cond.methodLink RX0 49 yX0_isIn ∈ pm_gw := pm_gw_of 412 (by decide +kernel) rfl
theorem lk_X0_53 : Cond.methodLink RX0 53 yX0_buildTarget ∈ pm_gw := pm_gw_of 415 (by decide +kernel) rfl
theorem lk_X0_57 : Cond.methodLink RX0 57 yX5_failureOf ∈ pm_gw := pm_gw_of 503 (by decide +kernel) rfl
theorem lk_X0_61 : Cond.methodLink RX0 61 yX5_targetOf ∈ pm_gw := pm_gw_of 419 (by decide +kernel) rfl
theorem fk_X0_65 : Cond.fieldLink RX0 65 RX4 (TX4 0).2.1 (TX4 0).2.2.1 ∈ pm_gw := pm_gw_of 79 (by decide +kernel) rfl
theorem fl_X0_65 : pm_fl RX0 65 4 0 := ⟨(RX4, TX4, 7), rfl, by decide, rfl, fk_X0_65⟩
theorem lk_X0_70 : Cond.methodLink RX0 70 yX5_emptyOf ∈ pm_gw := pm_gw_of 420 (by decide +kernel) rfl
theorem fk_X0_73 : Cond.fieldLink RX0 73 RX4 (TX4 3).2.1 (TX4 3).2.2.1 ∈ pm_gw := pm_gw_of 83 (by decide +kernel) rfl
theorem fl_X0_73 : pm_fl RX0 73 4 3 := ⟨(RX4, TX4, 7), rfl, by decide, rfl, fk_X0_73⟩
theorem fp_X0_73 : pm_fp RX0 73 4 3 false (.object "BuildEngine$Result") := ⟨(RX4, TX4, 7), rfl, by decide, rfl, fk_X0_73, rfl, by decide +kernel⟩
theorem lk_X0_77 : Cond.methodLink RX0 77 yX0_isStillSame ∈ pm_gw := pm_gw_of 425 (by decide +kernel) rfl
theorem fk_X0_81 : Cond.fieldLink RX0 81 RX0 (TX0 8).2.1 (TX0 8).2.2.1 ∈ pm_gw := pm_gw_of 167 (by decide +kernel) rfl
theorem fl_X0_81 : pm_fl RX0 81 0 8 := ⟨(RX0, TX0, 11), rfl, by decide, rfl, fk_X0_81⟩
theorem fp_X0_81 : pm_fp RX0 81 0 8 false .int := ⟨(RX0, TX0, 11), rfl, by decide, rfl, fk_X0_81, rfl, by decide +kernel⟩
theorem lk_X0_84 : Cond.methodLink RX0 84 yX0_runToEnd ∈ pm_gw := pm_gw_of 450 (by decide +kernel) rfl
theorem lk_X0_88 : Cond.methodLink RX0 88 yX0_noteDone ∈ pm_gw := pm_gw_of 499 (by decide +kernel) rfl
theorem lk_X0_92 : Cond.methodLink RX0 92 yX4_hasTrace ∈ pm_gw := pm_gw_of 429 (by decide +kernel) rfl
theorem fk_X0_96 : Cond.fieldLink RX0 96 RX4 (TX4 4).2.1 (TX4 4).2.2.1 ∈ pm_gw := pm_gw_of 88 (by decide +kernel) rfl
theorem fl_X0_96 : pm_fl RX0 96 4 4 := ⟨(RX4, TX4, 7), rfl, by decide, rfl, fk_X0_96⟩
theorem lk_X0_99 : Cond.methodLink RX0 99 yX4_tracedKey ∈ pm_gw := pm_gw_of 433 (by decide +kernel) rfl
theorem lk_X0_102 : Cond.methodLink RX0 102 yX5_resultOf ∈ pm_gw := pm_gw_of 437 (by decide +kernel) rfl
theorem lk_X0_105 : Cond.methodLink RX0 105 yX4_tracedResult ∈ pm_gw := pm_gw_of 443 (by decide +kernel) rfl
theorem lk_X0_108 : Cond.methodLink RX0 108 yX1_areSame ∈ pm_gw := pm_gw_of 447 (by decide +kernel) rfl
theorem lk_X0_114 : Cond.methodLink RX0 114 yX0_runOnce ∈ pm_gw := pm_gw_of 454 (by decide +kernel) rfl
theorem fk_X0_118 : Cond.fieldLink RX0 118 RX0 (TX0 7).2.1 (TX0 7).2.2.1 ∈ pm_gw := pm_gw_of 165 (by decide +kernel) rfl
theorem fl_X0_118 : pm_fl RX0 118 0 7 := ⟨(RX0, TX0, 11), rfl, by decide, rfl, fk_X0_118⟩
theorem fp_X0_118 : pm_fp RX0 118 0 7 false .int := ⟨(RX0, TX0, 11), rfl, by decide, rfl, fk_X0_118, rfl, by decide +kernel⟩
theorem fk_X0_121 : Cond.fieldLink RX0 121 RX0 (TX0 10).2.1 (TX0 10).2.2.1 ∈ pm_gw := pm_gw_of 171 (by decide +kernel) rfl
theorem fl_X0_121 : pm_fl RX0 121 0 10 := ⟨(RX0, TX0, 11), rfl, by decide, rfl, fk_X0_121⟩
theorem fp_X0_121 : pm_fp RX0 121 0 10 false .int := ⟨(RX0, TX0, 11), rfl, by decide, rfl, fk_X0_121, rfl, by decide +kernel⟩
theorem fk_X0_124 : Cond.fieldLink RX0 124 RX0 (TX0 9).2.1 (TX0 9).2.2.1 ∈ pm_gw := pm_gw_of 169 (by decide +kernel) rfl
theorem fl_X0_124 : pm_fl RX0 124 0 9 := ⟨(RX0, TX0, 11), rfl, by decide, rfl, fk_X0_124⟩
theorem fp_X0_124 : pm_fp RX0 124 0 9 false .int := ⟨(RX0, TX0, 11), rfl, by decide, rfl, fk_X0_124, rfl, by decide +kernel⟩
theorem lk_X0_127 : Cond.methodLink RX0 127 yX1_isOrComesOfSort ∈ pm_gw := pm_gw_of 494 (by decide +kernel) rfl
theorem lk_X0_131 : Cond.methodLink RX0 131 yX4_dropTrace ∈ pm_gw := pm_gw_of 498 (by decide +kernel) rfl
theorem lk_X0_134 : Cond.methodLink RX0 134 yX4_startTrace ∈ pm_gw := pm_gw_of 458 (by decide +kernel) rfl
theorem lk_X0_137 : Cond.methodLink RX0 137 yX4_signAt ∈ pm_gw := pm_gw_of 462 (by decide +kernel) rfl
theorem lk_X0_140 : Cond.methodLink RX0 140 yX4_figuresAt ∈ pm_gw := pm_gw_of 463 (by decide +kernel) rfl
theorem lk_X0_143 : pm_lkN RX0 143 yX6_asksForKey := ⟨"BuildEngine", List.mem_of_getElem? (i := 464) (by decide +kernel)⟩
theorem lk_X0_146 : Cond.methodLink RX0 146 yX1_ofFailure ∈ pm_gw := pm_gw_of 465 (by decide +kernel) rfl
theorem lk_X0_150 : Cond.methodLink RX0 150 yX0_resultIfDone ∈ pm_gw := pm_gw_of 466 (by decide +kernel) rfl
theorem lk_X0_153 : Cond.methodLink RX0 153 yX4_noteInTrace ∈ pm_gw := pm_gw_of 470 (by decide +kernel) rfl
theorem lk_X0_157 : Cond.methodLink RX0 157 yX1_isFailure ∈ pm_gw := pm_gw_of 479 (by decide +kernel) rfl
theorem fk_X0_160 : Cond.fieldLink RX0 160 RX1 (TX1 0).2.1 (TX1 0).2.2.1 ∈ pm_gw := pm_gw_of 121 (by decide +kernel) rfl
theorem fl_X0_160 : pm_fl RX0 160 1 0 := ⟨(RX1, TX1, 5), rfl, by decide, rfl, fk_X0_160⟩
theorem lk_X0_163 : Cond.methodLink RX0 163 yX0_worked ∈ pm_gw := pm_gw_of 483 (by decide +kernel) rfl
theorem lk_X0_167 : Cond.methodLink RX0 167 yX0_failingSort ∈ pm_gw := pm_gw_of 486 (by decide +kernel) rfl
theorem lk_X0_171 : Cond.methodLink RX0 171 yX0_stepsToPass ∈ pm_gw := pm_gw_of 490 (by decide +kernel) rfl
theorem lk_X0_175 : Cond.methodLink RX0 175 yX1_ofContent ∈ pm_gw := pm_gw_of 493 (by decide +kernel) rfl
theorem lk_X0_178 : pm_lkN RX0 178 yX6_isTarget := ⟨"BuildEngine", List.mem_of_getElem? (i := 403) (by decide +kernel)⟩
theorem lk_X0_181 : pm_lkN RX0 181 yX6_isContent := ⟨"BuildEngine", List.mem_of_getElem? (i := 489) (by decide +kernel)⟩
theorem lk_X1_3 : Cond.methodLink RX1 3 objectInit ∈ pm_gw := pm_gw_of 117 (by decide +kernel) rfl
theorem fk_X1_9 : Cond.fieldLink RX1 9 RX1 (TX1 0).2.1 (TX1 0).2.2.1 ∈ pm_gw := pm_gw_of 118 (by decide +kernel) rfl
theorem fl_X1_9 : pm_fl RX1 9 1 0 := ⟨(RX1, TX1, 5), rfl, by decide, rfl, fk_X1_9⟩
theorem fp_X1_9 : pm_fp RX1 9 1 0 true .int := ⟨(RX1, TX1, 5), rfl, by decide, rfl, fk_X1_9, rfl, by decide +kernel⟩
theorem cl_X1_10 : Cond.classLink RX1 10 RX1 ∈ pm_gw := pm_gw_of 112 (by decide +kernel) rfl
theorem fk_X1_15 : Cond.fieldLink RX1 15 RX1 (TX1 1).2.1 (TX1 1).2.2.1 ∈ pm_gw := pm_gw_of 122 (by decide +kernel) rfl
theorem fl_X1_15 : pm_fl RX1 15 1 1 := ⟨(RX1, TX1, 5), rfl, by decide, rfl, fk_X1_15⟩
theorem fp_X1_15 : pm_fp RX1 15 1 1 true .int := ⟨(RX1, TX1, 5), rfl, by decide, rfl, fk_X1_15, rfl, by decide +kernel⟩
theorem fk_X1_18 : Cond.fieldLink RX1 18 RX1 (TX1 2).2.1 (TX1 2).2.2.1 ∈ pm_gw := pm_gw_of 124 (by decide +kernel) rfl
theorem fl_X1_18 : pm_fl RX1 18 1 2 := ⟨(RX1, TX1, 5), rfl, by decide, rfl, fk_X1_18⟩
theorem fp_X1_18 : pm_fp RX1 18 1 2 true .int := ⟨(RX1, TX1, 5), rfl, by decide, rfl, fk_X1_18, rfl, by decide +kernel⟩
theorem fk_X1_21 : Cond.fieldLink RX1 21 RX1 (TX1 3).2.1 (TX1 3).2.2.1 ∈ pm_gw := pm_gw_of 126 (by decide +kernel) rfl
theorem fl_X1_21 : pm_fl RX1 21 1 3 := ⟨(RX1, TX1, 5), rfl, by decide, rfl, fk_X1_21⟩
theorem fp_X1_21 : pm_fp RX1 21 1 3 true .int := ⟨(RX1, TX1, 5), rfl, by decide, rfl, fk_X1_21, rfl, by decide +kernel⟩
theorem fk_X1_24 : Cond.fieldLink RX1 24 RX1 (TX1 4).2.1 (TX1 4).2.2.1 ∈ pm_gw := pm_gw_of 128 (by decide +kernel) rfl
theorem fl_X1_24 : pm_fl RX1 24 1 4 := ⟨(RX1, TX1, 5), rfl, by decide, rfl, fk_X1_24⟩
theorem fp_X1_24 : pm_fp RX1 24 1 4 true (.object "BuildEngine$Result") := ⟨(RX1, TX1, 5), rfl, by decide, rfl, fk_X1_24, rfl, by decide +kernel⟩
theorem lk_X1_28 : Cond.methodLink RX1 28 yX1_init ∈ pm_gw := pm_gw_of 114 (by decide +kernel) rfl
theorem lk_X1_31 : Cond.methodLink RX1 31 yX1_isFailure ∈ pm_gw := pm_gw_of 548 (by decide +kernel) rfl
theorem kc_X1_35 : Cond.constant RX1 35 (10000000) ∈ pm_gw := pm_gw_of 549 (by decide +kernel) rfl
theorem lk_X2_3 : Cond.methodLink RX2 3 objectInit ∈ pm_gw := pm_gw_of 218 (by decide +kernel) rfl
theorem fk_X2_9 : Cond.fieldLink RX2 9 RX2 (TX2 1).2.1 (TX2 1).2.2.1 ∈ pm_gw := pm_gw_of 221 (by decide +kernel) rfl
theorem fl_X2_9 : pm_fl RX2 9 2 1 := ⟨(RX2, TX2, 3), rfl, by decide, rfl, fk_X2_9⟩
theorem fp_X2_9 : pm_fp RX2 9 2 1 true (.array .long) := ⟨(RX2, TX2, 3), rfl, by decide, rfl, fk_X2_9, rfl, by decide +kernel⟩
theorem fk_X2_15 : Cond.fieldLink RX2 15 RX2 (TX2 0).2.1 (TX2 0).2.2.1 ∈ pm_gw := pm_gw_of 219 (by decide +kernel) rfl
theorem fl_X2_15 : pm_fl RX2 15 2 0 := ⟨(RX2, TX2, 3), rfl, by decide, rfl, fk_X2_15⟩
theorem fp_X2_15 : pm_fp RX2 15 2 0 false .boolean := ⟨(RX2, TX2, 3), rfl, by decide, rfl, fk_X2_15, rfl, by decide +kernel⟩
theorem lk_X2_19 : Cond.methodLink RX2 19 yJ9_min_7cf53 ∈ pm_gw := pm_gw_of 700 (by decide +kernel) rfl
theorem lk_X2_25 : Cond.methodLink RX2 25 yJ9_max_7cf53 ∈ pm_gw := pm_gw_of 701 (by decide +kernel) rfl
theorem fk_X2_28 : Cond.fieldLink RX2 28 RX2 (TX2 2).2.1 (TX2 2).2.2.1 ∈ pm_gw := pm_gw_of 223 (by decide +kernel) rfl
theorem fl_X2_28 : pm_fl RX2 28 2 2 := ⟨(RX2, TX2, 3), rfl, by decide, rfl, fk_X2_28⟩
theorem fp_X2_28 : pm_fp RX2 28 2 2 false .int := ⟨(RX2, TX2, 3), rfl, by decide, rfl, fk_X2_28, rfl, by decide +kernel⟩
theorem lk_X2_32 : Cond.methodLink RX2 32 yJ7_fill_d0a16 ∈ pm_gw := pm_gw_of 702 (by decide +kernel) rfl
theorem lk_X2_38 : Cond.methodLink RX2 38 yX2_hasPlace ∈ pm_gw := pm_gw_of 713 (by decide +kernel) rfl
theorem kc_X2_42 : Cond.constantLong RX2 42 (-9223372036854775808) ∈ pm_gw := pm_gw_of 726 (by decide +kernel) rfl
theorem lk_X3_3 : Cond.methodLink RX3 3 objectInit ∈ pm_gw := pm_gw_of 202 (by decide +kernel) rfl
theorem fk_X3_9 : Cond.fieldLink RX3 9 RX3 (TX3 0).2.1 (TX3 0).2.2.1 ∈ pm_gw := pm_gw_of 203 (by decide +kernel) rfl
theorem fl_X3_9 : pm_fl RX3 9 3 0 := ⟨(RX3, TX3, 2), rfl, by decide, rfl, fk_X3_9⟩
theorem fp_X3_9 : pm_fp RX3 9 3 0 true (.array .int) := ⟨(RX3, TX3, 2), rfl, by decide, rfl, fk_X3_9, rfl, by decide +kernel⟩
theorem fk_X3_15 : Cond.fieldLink RX3 15 RX3 (TX3 1).2.1 (TX3 1).2.2.1 ∈ pm_gw := pm_gw_of 204 (by decide +kernel) rfl
theorem fl_X3_15 : pm_fl RX3 15 3 1 := ⟨(RX3, TX3, 2), rfl, by decide, rfl, fk_X3_15⟩
theorem fp_X3_15 : pm_fp RX3 15 3 1 false .int := ⟨(RX3, TX3, 2), rfl, by decide, rfl, fk_X3_15, rfl, by decide +kernel⟩
theorem lk_X3_19 : Cond.methodLink RX3 19 yX3_letterAt ∈ pm_gw := pm_gw_of 318 (by decide +kernel) rfl
theorem lk_X3_23 : pm_lkN RX3 23 yX6_isSign := ⟨"BuildEngine", List.mem_of_getElem? (i := 322) (by decide +kernel)⟩
theorem lk_X3_27 : pm_lkN RX3 27 yX6_isFigure := ⟨"BuildEngine", List.mem_of_getElem? (i := 328) (by decide +kernel)⟩
theorem lk_X3_30 : Cond.methodLink RX3 30 yX3_tellsNoKey ∈ pm_gw := pm_gw_of 331 (by decide +kernel) rfl
theorem lk_X3_34 : Cond.methodLink RX3 34 yX3_numberAt ∈ pm_gw := pm_gw_of 335 (by decide +kernel) rfl
theorem lk_X3_37 : pm_lkN RX3 37 yX6_asksForKey := ⟨"BuildEngine", List.mem_of_getElem? (i := 339) (by decide +kernel)⟩
theorem lk_X3_40 : pm_lkN RX3 40 yX6_isKey := ⟨"BuildEngine", List.mem_of_getElem? (i := 340) (by decide +kernel)⟩
theorem lk_X4_3 : Cond.methodLink RX4 3 objectInit ∈ pm_gw := pm_gw_of 75 (by decide +kernel) rfl
theorem fk_X4_9 : Cond.fieldLink RX4 9 RX4 (TX4 1).2.1 (TX4 1).2.2.1 ∈ pm_gw := pm_gw_of 81 (by decide +kernel) rfl
theorem fl_X4_9 : pm_fl RX4 9 4 1 := ⟨(RX4, TX4, 7), rfl, by decide, rfl, fk_X4_9⟩
theorem fp_X4_9 : pm_fp RX4 9 4 1 true (.array .int) := ⟨(RX4, TX4, 7), rfl, by decide, rfl, fk_X4_9, rfl, by decide +kernel⟩
theorem fk_X4_15 : Cond.fieldLink RX4 15 RX4 (TX4 2).2.1 (TX4 2).2.2.1 ∈ pm_gw := pm_gw_of 82 (by decide +kernel) rfl
theorem fl_X4_15 : pm_fl RX4 15 4 2 := ⟨(RX4, TX4, 7), rfl, by decide, rfl, fk_X4_15⟩
theorem fp_X4_15 : pm_fp RX4 15 4 2 true (.array .int) := ⟨(RX4, TX4, 7), rfl, by decide, rfl, fk_X4_15, rfl, by decide +kernel⟩
theorem fk_X4_18 : Cond.fieldLink RX4 18 RX4 (TX4 4).2.1 (TX4 4).2.2.1 ∈ pm_gw := pm_gw_of 87 (by decide +kernel) rfl
theorem fl_X4_18 : pm_fl RX4 18 4 4 := ⟨(RX4, TX4, 7), rfl, by decide, rfl, fk_X4_18⟩
theorem fp_X4_18 : pm_fp RX4 18 4 4 false .int := ⟨(RX4, TX4, 7), rfl, by decide, rfl, fk_X4_18, rfl, by decide +kernel⟩
theorem fk_X4_22 : Cond.fieldLink RX4 22 RX4 (TX4 5).2.1 (TX4 5).2.2.1 ∈ pm_gw := pm_gw_of 91 (by decide +kernel) rfl
theorem fl_X4_22 : pm_fl RX4 22 4 5 := ⟨(RX4, TX4, 7), rfl, by decide, rfl, fk_X4_22⟩
theorem fp_X4_22 : pm_fp RX4 22 4 5 true (.array .int) := ⟨(RX4, TX4, 7), rfl, by decide, rfl, fk_X4_22, rfl, by decide +kernel⟩
theorem cl_X4_25 : Cond.classLink RX4 25 RX1 ∈ pm_gw := pm_gw_of 76 (by decide +kernel) rfl
theorem fk_X4_27 : Cond.fieldLink RX4 27 RX4 (TX4 6).2.1 (TX4 6).2.2.1 ∈ pm_gw := pm_gw_of 92 (by decide +kernel) rfl
theorem fl_X4_27 : pm_fl RX4 27 4 6 := ⟨(RX4, TX4, 7), rfl, by decide, rfl, fk_X4_27⟩
theorem fp_X4_27 : pm_fp RX4 27 4 6 true (.array (.object "BuildEngine$Result")) := ⟨(RX4, TX4, 7), rfl, by decide, rfl, fk_X4_27, rfl, by decide +kernel⟩
theorem fk_X4_31 : Cond.fieldLink RX4 31 RX4 (TX4 0).2.1 (TX4 0).2.2.1 ∈ pm_gw := pm_gw_of 77 (by decide +kernel) rfl
theorem fl_X4_31 : pm_fl RX4 31 4 0 := ⟨(RX4, TX4, 7), rfl, by decide, rfl, fk_X4_31⟩
theorem fp_X4_31 : pm_fp RX4 31 4 0 false .int := ⟨(RX4, TX4, 7), rfl, by decide, rfl, fk_X4_31, rfl, by decide +kernel⟩
theorem fk_X4_34 : Cond.fieldLink RX4 34 RX3 (TX3 1).2.1 (TX3 1).2.2.1 ∈ pm_gw := pm_gw_of 205 (by decide +kernel) rfl
theorem fl_X4_34 : pm_fl RX4 34 3 1 := ⟨(RX3, TX3, 2), rfl, by decide, rfl, fk_X4_34⟩
theorem lk_X4_39 : Cond.methodLink RX4 39 yJ9_min_7cf53 ∈ pm_gw := pm_gw_of 347 (by decide +kernel) rfl
theorem lk_X4_45 : Cond.methodLink RX4 45 yX3_letterAt ∈ pm_gw := pm_gw_of 350 (by decide +kernel) rfl
theorem lk_X4_49 : Cond.methodLink RX4 49 yX3_numberAt ∈ pm_gw := pm_gw_of 351 (by decide +kernel) rfl
theorem lk_X4_52 : Cond.methodLink RX4 52 yX4_dropTrace ∈ pm_gw := pm_gw_of 352 (by decide +kernel) rfl
theorem lk_X4_55 : Cond.methodLink RX4 55 yX4_copyRule ∈ pm_gw := pm_gw_of 372 (by decide +kernel) rfl
theorem lk_X4_59 : Cond.methodLink RX4 59 arraycopyName ∈ pm_gw := pm_gw_of 376 (by decide +kernel) rfl
theorem lk_X4_65 : Cond.methodLink RX4 65 yX4_traces ∈ pm_gw := pm_gw_of 474 (by decide +kernel) rfl
theorem lk_X4_69 : Cond.methodLink RX4 69 yX4_tracedKey ∈ pm_gw := pm_gw_of 478 (by decide +kernel) rfl
theorem fk_X4_72 : Cond.fieldLink RX4 72 RX4 (TX4 3).2.1 (TX4 3).2.2.1 ∈ pm_gw := pm_gw_of 85 (by decide +kernel) rfl
theorem fl_X4_72 : pm_fl RX4 72 4 3 := ⟨(RX4, TX4, 7), rfl, by decide, rfl, fk_X4_72⟩
theorem fp_X4_72 : pm_fp RX4 72 4 3 false (.object "BuildEngine$Result") := ⟨(RX4, TX4, 7), rfl, by decide, rfl, fk_X4_72, rfl, by decide +kernel⟩
theorem lk_X5_3 : Cond.methodLink RX5 3 objectInit ∈ pm_gw := pm_gw_of 66 (by decide +kernel) rfl
theorem cl_X5_9 : Cond.classLink RX5 9 RX1 ∈ pm_gw := pm_gw_of 67 (by decide +kernel) rfl
theorem fk_X5_11 : Cond.fieldLink RX5 11 RX5 (TX5 0).2.1 (TX5 0).2.2.1 ∈ pm_gw := pm_gw_of 141 (by decide +kernel) rfl
theorem fl_X5_11 : pm_fl RX5 11 5 0 := ⟨(RX5, TX5, 4), rfl, by decide, rfl, fk_X5_11⟩
theorem fp_X5_11 : pm_fp RX5 11 5 0 true (.array (.object "BuildEngine$Result")) := ⟨(RX5, TX5, 4), rfl, by decide, rfl, fk_X5_11, rfl, by decide +kernel⟩
theorem cl_X5_17 : Cond.classLink RX5 17 RX4 ∈ pm_gw := pm_gw_of 69 (by decide +kernel) rfl
theorem fk_X5_19 : Cond.fieldLink RX5 19 RX5 (TX5 1).2.1 (TX5 1).2.2.1 ∈ pm_gw := pm_gw_of 142 (by decide +kernel) rfl
theorem fl_X5_19 : pm_fl RX5 19 5 1 := ⟨(RX5, TX5, 4), rfl, by decide, rfl, fk_X5_19⟩
theorem fp_X5_19 : pm_fp RX5 19 5 1 true (.array (.object "BuildEngine$Target")) := ⟨(RX5, TX5, 4), rfl, by decide, rfl, fk_X5_19, rfl, by decide +kernel⟩
theorem fk_X5_23 : Cond.fieldLink RX5 23 RX5 (TX5 2).2.1 (TX5 2).2.2.1 ∈ pm_gw := pm_gw_of 143 (by decide +kernel) rfl
theorem fl_X5_23 : pm_fl RX5 23 5 2 := ⟨(RX5, TX5, 4), rfl, by decide, rfl, fk_X5_23⟩
theorem fp_X5_23 : pm_fp RX5 23 5 2 true (.array (.object "BuildEngine$Result")) := ⟨(RX5, TX5, 4), rfl, by decide, rfl, fk_X5_23, rfl, by decide +kernel⟩
theorem fk_X5_26 : Cond.fieldLink RX5 26 RX5 (TX5 3).2.1 (TX5 3).2.2.1 ∈ pm_gw := pm_gw_of 144 (by decide +kernel) rfl
theorem fl_X5_26 : pm_fl RX5 26 5 3 := ⟨(RX5, TX5, 4), rfl, by decide, rfl, fk_X5_26⟩
theorem fp_X5_26 : pm_fp RX5 26 5 3 true (.array .int) := ⟨(RX5, TX5, 4), rfl, by decide, rfl, fk_X5_26, rfl, by decide +kernel⟩
theorem lk_X5_30 : pm_lkN RX5 30 yX4_init := ⟨"BuildEngine", List.mem_of_getElem? (i := 72) (by decide +kernel)⟩
theorem lk_X5_31 : Cond.methodLink RX5 31 yX1_ofFailure ∈ pm_gw := pm_gw_of 109 (by decide +kernel) rfl
theorem lk_X5_35 : pm_lkN RX5 35 yX6_isTarget := ⟨"BuildEngine", List.mem_of_getElem? (i := 311) (by decide +kernel)⟩
theorem lk_X5_39 : pm_lkN RX5 39 yX6_isInput := ⟨"BuildEngine", List.mem_of_getElem? (i := 274) (by decide +kernel)⟩
theorem lk_X5_42 : Cond.methodLink RX5 42 yX5_contentOf ∈ pm_gw := pm_gw_of 270 (by decide +kernel) rfl
theorem fk_X5_46 : Cond.fieldLink RX5 46 RX1 (TX1 0).2.1 (TX1 0).2.2.1 ∈ pm_gw := pm_gw_of 120 (by decide +kernel) rfl
theorem fl_X5_46 : pm_fl RX5 46 1 0 := ⟨(RX1, TX1, 5), rfl, by decide, rfl, fk_X5_46⟩
theorem lk_X5_50 : Cond.methodLink RX5 50 yX1_ofContent ∈ pm_gw := pm_gw_of 275 (by decide +kernel) rfl
theorem lk_X5_53 : pm_lkN RX5 53 yX6_isKey := ⟨"BuildEngine", List.mem_of_getElem? (i := 424) (by decide +kernel)⟩
theorem lk_X5_56 : Cond.methodLink RX5 56 yX5_targetOf ∈ pm_gw := pm_gw_of 441 (by decide +kernel) rfl
theorem fk_X5_60 : Cond.fieldLink RX5 60 RX4 (TX4 3).2.1 (TX4 3).2.2.1 ∈ pm_gw := pm_gw_of 84 (by decide +kernel) rfl
theorem fl_X5_60 : pm_fl RX5 60 4 3 := ⟨(RX4, TX4, 7), rfl, by decide, rfl, fk_X5_60⟩
theorem lk_X5_64 : Cond.methodLink RX5 64 yX5_emptyOf ∈ pm_gw := pm_gw_of 442 (by decide +kernel) rfl
theorem lk_X5_67 : Cond.methodLink RX5 67 yX5_resultOf ∈ pm_gw := pm_gw_of 507 (by decide +kernel) rfl
theorem lk_X5_70 : Cond.methodLink RX5 70 yX1_isFailure ∈ pm_gw := pm_gw_of 508 (by decide +kernel) rfl
theorem kc_X5_74 : Cond.constant RX5 74 (10000000) ∈ pm_gw := pm_gw_of 543 (by decide +kernel) rfl
theorem lk_X5_75 : Cond.methodLink RX5 75 yX1_asTold ∈ pm_gw := pm_gw_of 544 (by decide +kernel) rfl
theorem lk_X5_79 : Cond.methodLink RX5 79 yX5_failureOf ∈ pm_gw := pm_gw_of 579 (by decide +kernel) rfl
theorem lk_X5_82 : Cond.methodLink RX5 82 yX1_isOrComesOfKey ∈ pm_gw := pm_gw_of 580 (by decide +kernel) rfl
theorem lk_X5_85 : Cond.methodLink RX5 85 yX4_traces ∈ pm_gw := pm_gw_of 604 (by decide +kernel) rfl
theorem lk_X5_88 : Cond.methodLink RX5 88 yX5_isUpToDate ∈ pm_gw := pm_gw_of 657 (by decide +kernel) rfl
theorem lk_X5_92 : Cond.methodLink RX5 92 yX4_hasTrace ∈ pm_gw := pm_gw_of 661 (by decide +kernel) rfl
theorem fk_X5_95 : Cond.fieldLink RX5 95 RX4 (TX4 4).2.1 (TX4 4).2.2.1 ∈ pm_gw := pm_gw_of 89 (by decide +kernel) rfl
theorem fl_X5_95 : pm_fl RX5 95 4 4 := ⟨(RX4, TX4, 7), rfl, by decide, rfl, fk_X5_95⟩
theorem lk_X5_98 : Cond.methodLink RX5 98 yX4_tracedKey ∈ pm_gw := pm_gw_of 624 (by decide +kernel) rfl
theorem lk_X5_102 : Cond.methodLink RX5 102 yX4_tracedResult ∈ pm_gw := pm_gw_of 662 (by decide +kernel) rfl
theorem lk_X5_105 : Cond.methodLink RX5 105 yX1_areSame ∈ pm_gw := pm_gw_of 648 (by decide +kernel) rfl
theorem lk_X5_109 : Cond.methodLink RX5 109 yJ7_fill_53178 ∈ pm_gw := pm_gw_of 613 (by decide +kernel) rfl
theorem lk_X5_115 : Cond.methodLink RX5 115 yX5_deepenAll ∈ pm_gw := pm_gw_of 616 (by decide +kernel) rfl
theorem lk_X5_118 : Cond.methodLink RX5 118 yX5_depthByTrace ∈ pm_gw := pm_gw_of 620 (by decide +kernel) rfl
theorem lk_X5_122 : Cond.methodLink RX5 122 yJ9_max_7cf53 ∈ pm_gw := pm_gw_of 625 (by decide +kernel) rfl
theorem lk_X5_128 : Cond.methodLink RX5 128 yX5_hasSameBelow ∈ pm_gw := pm_gw_of 644 (by decide +kernel) rfl
theorem fk_X5_131 : Cond.fieldLink RX5 131 RX4 (TX4 0).2.1 (TX4 0).2.2.1 ∈ pm_gw := pm_gw_of 80 (by decide +kernel) rfl
theorem fl_X5_131 : pm_fl RX5 131 4 0 := ⟨(RX4, TX4, 7), rfl, by decide, rfl, fk_X5_131⟩
theorem lk_X5_134 : Cond.methodLink RX5 134 yX4_copyFrom ∈ pm_gw := pm_gw_of 530 (by decide +kernel) rfl
theorem cl_L_7 : Cond.classLink RL 7 RX6 ∈ pm_gw := pm_gw_of 47 (by decide +kernel) rfl
theorem lk_L_9 : Cond.methodLink RL 9 yX6_init ∈ pm_gw := pm_gw_of 49 (by decide +kernel) rfl
theorem cl_L_10 : Cond.classLink RL 10 RX7 ∈ pm_gw := pm_gw_of 754 (by decide +kernel) rfl
theorem lk_L_12 : Cond.methodLink RL 12 yX7_init ∈ pm_gw := pm_gw_of 756 (by decide +kernel) rfl
theorem lk_L_13 : Cond.methodLink RL 13 yX6_give ∈ pm_gw := pm_gw_of 254 (by decide +kernel) rfl
theorem lk_L_17 : Cond.methodLink RL 17 yX7_give ∈ pm_gw := pm_gw_of 849 (by decide +kernel) rfl
theorem lk_L_18 : Cond.methodLink RL 18 yX6_take ∈ pm_gw := pm_gw_of 278 (by decide +kernel) rfl
theorem lk_L_22 : Cond.methodLink RL 22 yX7_take ∈ pm_gw := pm_gw_of 866 (by decide +kernel) rfl
theorem lk_L_23 : Cond.methodLink RL 23 yX6_feed ∈ pm_gw := pm_gw_of 287 (by decide +kernel) rfl
theorem lk_L_26 : Cond.methodLink RL 26 yX7_feed ∈ pm_gw := pm_gw_of 873 (by decide +kernel) rfl
theorem lk_L_27 : Cond.methodLink RL 27 yX6_clear ∈ pm_gw := pm_gw_of 295 (by decide +kernel) rfl
theorem lk_L_31 : Cond.methodLink RL 31 yX7_clear ∈ pm_gw := pm_gw_of 878 (by decide +kernel) rfl
theorem lk_L_32 : Cond.methodLink RL 32 yX6_rule ∈ pm_gw := pm_gw_of 303 (by decide +kernel) rfl
theorem lk_L_35 : Cond.methodLink RL 35 yX7_rule ∈ pm_gw := pm_gw_of 882 (by decide +kernel) rfl
theorem lk_L_36 : Cond.methodLink RL 36 yX6_drop ∈ pm_gw := pm_gw_of 356 (by decide +kernel) rfl
theorem lk_L_39 : Cond.methodLink RL 39 yX7_drop ∈ pm_gw := pm_gw_of 911 (by decide +kernel) rfl
theorem lk_L_40 : Cond.methodLink RL 40 yX6_copy ∈ pm_gw := pm_gw_of 364 (by decide +kernel) rfl
theorem lk_L_43 : Cond.methodLink RL 43 yX7_copy ∈ pm_gw := pm_gw_of 919 (by decide +kernel) rfl
theorem lk_L_44 : Cond.methodLink RL 44 yX6_step ∈ pm_gw := pm_gw_of 379 (by decide +kernel) rfl
theorem lk_L_47 : Cond.methodLink RL 47 yX7_step ∈ pm_gw := pm_gw_of 923 (by decide +kernel) rfl
theorem lk_L_48 : Cond.methodLink RL 48 yX6_build ∈ pm_gw := pm_gw_of 391 (by decide +kernel) rfl
theorem lk_L_51 : Cond.methodLink RL 51 yX7_build ∈ pm_gw := pm_gw_of 927 (by decide +kernel) rfl
theorem lk_L_52 : Cond.methodLink RL 52 yX6_all ∈ pm_gw := pm_gw_of 509 (by decide +kernel) rfl
theorem lk_L_55 : Cond.methodLink RL 55 yX7_all ∈ pm_gw := pm_gw_of 986 (by decide +kernel) rfl
theorem lk_L_56 : Cond.methodLink RL 56 yX6_some ∈ pm_gw := pm_gw_of 518 (by decide +kernel) rfl
theorem lk_L_59 : Cond.methodLink RL 59 yX7_some ∈ pm_gw := pm_gw_of 991 (by decide +kernel) rfl
theorem lk_L_60 : Cond.methodLink RL 60 yX6_tried ∈ pm_gw := pm_gw_of 522 (by decide +kernel) rfl
theorem lk_L_64 : Cond.methodLink RL 64 yX7_tried ∈ pm_gw := pm_gw_of 996 (by decide +kernel) rfl
theorem lk_L_65 : Cond.methodLink RL 65 yX6_result ∈ pm_gw := pm_gw_of 534 (by decide +kernel) rfl
theorem lk_L_68 : Cond.methodLink RL 68 yX7_result ∈ pm_gw := pm_gw_of 1003 (by decide +kernel) rfl
theorem lk_L_69 : Cond.methodLink RL 69 yX6_failure ∈ pm_gw := pm_gw_of 550 (by decide +kernel) rfl
theorem lk_L_72 : Cond.methodLink RL 72 yX7_failure ∈ pm_gw := pm_gw_of 1015 (by decide +kernel) rfl
theorem lk_L_73 : Cond.methodLink RL 73 yX6_causes ∈ pm_gw := pm_gw_of 555 (by decide +kernel) rfl
theorem lk_L_76 : Cond.methodLink RL 76 yX7_causes ∈ pm_gw := pm_gw_of 1024 (by decide +kernel) rfl
theorem lk_L_77 : Cond.methodLink RL 77 yX6_root ∈ pm_gw := pm_gw_of 563 (by decide +kernel) rfl
theorem lk_L_80 : Cond.methodLink RL 80 yX7_root ∈ pm_gw := pm_gw_of 1028 (by decide +kernel) rfl
theorem lk_L_81 : Cond.methodLink RL 81 yX6_blamed ∈ pm_gw := pm_gw_of 571 (by decide +kernel) rfl
theorem lk_L_84 : Cond.methodLink RL 84 yX7_blamed ∈ pm_gw := pm_gw_of 1032 (by decide +kernel) rfl
theorem lk_L_85 : Cond.methodLink RL 85 yX6_trace ∈ pm_gw := pm_gw_of 584 (by decide +kernel) rfl
theorem lk_L_88 : Cond.methodLink RL 88 yX7_trace ∈ pm_gw := pm_gw_of 1036 (by decide +kernel) rfl
theorem lk_L_89 : Cond.methodLink RL 89 yX6_seen ∈ pm_gw := pm_gw_of 590 (by decide +kernel) rfl
theorem lk_L_92 : Cond.methodLink RL 92 yX7_seen ∈ pm_gw := pm_gw_of 1044 (by decide +kernel) rfl
theorem lk_L_93 : Cond.methodLink RL 93 yX6_users ∈ pm_gw := pm_gw_of 596 (by decide +kernel) rfl
theorem lk_L_96 : Cond.methodLink RL 96 yX7_users ∈ pm_gw := pm_gw_of 1048 (by decide +kernel) rfl
theorem lk_L_97 : Cond.methodLink RL 97 yX6_depth ∈ pm_gw := pm_gw_of 605 (by decide +kernel) rfl
theorem lk_L_100 : Cond.methodLink RL 100 yX7_depth ∈ pm_gw := pm_gw_of 1056 (by decide +kernel) rfl
theorem lk_L_101 : Cond.methodLink RL 101 yX6_order ∈ pm_gw := pm_gw_of 628 (by decide +kernel) rfl
theorem lk_L_104 : Cond.methodLink RL 104 yX7_order ∈ pm_gw := pm_gw_of 1061 (by decide +kernel) rfl
theorem lk_L_105 : Cond.methodLink RL 105 yX6_unlike ∈ pm_gw := pm_gw_of 636 (by decide +kernel) rfl
theorem lk_L_108 : Cond.methodLink RL 108 yX7_unlike ∈ pm_gw := pm_gw_of 1065 (by decide +kernel) rfl
theorem lk_L_109 : Cond.methodLink RL 109 yX6_fresh ∈ pm_gw := pm_gw_of 649 (by decide +kernel) rfl
theorem lk_L_112 : Cond.methodLink RL 112 yX7_fresh ∈ pm_gw := pm_gw_of 1069 (by decide +kernel) rfl
theorem lk_L_113 : Cond.methodLink RL 113 yX6_forget ∈ pm_gw := pm_gw_of 663 (by decide +kernel) rfl
theorem lk_L_116 : Cond.methodLink RL 116 yX7_forget ∈ pm_gw := pm_gw_of 1073 (by decide +kernel) rfl
theorem lk_L_117 : Cond.methodLink RL 117 yX6_told ∈ pm_gw := pm_gw_of 668 (by decide +kernel) rfl
theorem lk_L_120 : Cond.methodLink RL 120 yX7_told ∈ pm_gw := pm_gw_of 1077 (by decide +kernel) rfl
theorem lk_L_121 : Cond.methodLink RL 121 yX6_list ∈ pm_gw := pm_gw_of 688 (by decide +kernel) rfl
theorem lk_L_124 : Cond.methodLink RL 124 yX7_list ∈ pm_gw := pm_gw_of 1085 (by decide +kernel) rfl
theorem kc_L_125 : Cond.constantLong RL 125 (4294967295) ∈ pm_gw := pm_gw_of 1122 (by decide +kernel) rfl
theorem lk_L_127 : Cond.methodLink RL 127 yX6_put ∈ pm_gw := pm_gw_of 705 (by decide +kernel) rfl
theorem lk_L_131 : Cond.methodLink RL 131 yX7_put ∈ pm_gw := pm_gw_of 1093 (by decide +kernel) rfl
theorem lk_L_132 : Cond.methodLink RL 132 yX6_get ∈ pm_gw := pm_gw_of 717 (by decide +kernel) rfl
theorem lk_L_136 : Cond.methodLink RL 136 yX7_get ∈ pm_gw := pm_gw_of 1097 (by decide +kernel) rfl
theorem lk_L_137 : Cond.methodLink RL 137 yX6_move ∈ pm_gw := pm_gw_of 727 (by decide +kernel) rfl
theorem lk_L_141 : Cond.methodLink RL 141 yX7_move ∈ pm_gw := pm_gw_of 1102 (by decide +kernel) rfl
theorem lk_L_142 : Cond.methodLink RL 142 yX6_lay ∈ pm_gw := pm_gw_of 736 (by decide +kernel) rfl
theorem lk_L_145 : Cond.methodLink RL 145 yX7_lay ∈ pm_gw := pm_gw_of 1106 (by decide +kernel) rfl
theorem lk_L_146 : Cond.methodLink RL 146 yX6_judge ∈ pm_gw := pm_gw_of 740 (by decide +kernel) rfl
theorem lk_L_149 : Cond.methodLink RL 149 yX7_judge ∈ pm_gw := pm_gw_of 1110 (by decide +kernel) rfl
theorem lk_L_150 : Cond.methodLink RL 150 yX6_image ∈ pm_gw := pm_gw_of 745 (by decide +kernel) rfl
theorem lk_L_153 : Cond.methodLink RL 153 yX7_image ∈ pm_gw := pm_gw_of 1114 (by decide +kernel) rfl
theorem lk_L_154 : Cond.methodLink RL 154 yX6_undo ∈ pm_gw := pm_gw_of 749 (by decide +kernel) rfl
theorem lk_L_157 : Cond.methodLink RL 157 yX7_undo ∈ pm_gw := pm_gw_of 1118 (by decide +kernel) rfl
theorem kc_X7_5 : Cond.constantLong RX7 5 (7) ∈ pm_gw := pm_gw_of 856 (by decide +kernel) rfl
theorem lk_X7_7 : Cond.methodLink RX7 7 yX7_isIn ∈ pm_gw := pm_gw_of 857 (by decide +kernel) rfl
theorem kc_X7_11 : Cond.constantLong RX7 11 (8) ∈ pm_gw := pm_gw_of 889 (by decide +kernel) rfl
theorem kc_X7_13 : Cond.constantLong RX7 13 (23) ∈ pm_gw := pm_gw_of 890 (by decide +kernel) rfl
theorem kc_X7_15 : Cond.constant RX7 15 (1000000) ∈ pm_gw := pm_gw_of 865 (by decide +kernel) rfl
theorem fk_X7_16 : Cond.fieldLink RX7 16 RX7 (TX7 4).2.1 (TX7 4).2.2.1 ∈ pm_gw := pm_gw_of 764 (by decide +kernel) rfl
theorem fl_X7_16 : pm_fl RX7 16 7 4 := ⟨(RX7, TX7, 29), rfl, by decide, rfl, fk_X7_16⟩
theorem fp_X7_16 : pm_fp RX7 16 7 4 false .int := ⟨(RX7, TX7, 29), rfl, by decide, rfl, fk_X7_16, rfl, by decide +kernel⟩
theorem fk_X7_20 : Cond.fieldLink RX7 20 RX7 (TX7 0).2.1 (TX7 0).2.2.1 ∈ pm_gw := pm_gw_of 760 (by decide +kernel) rfl
theorem fl_X7_20 : pm_fl RX7 20 7 0 := ⟨(RX7, TX7, 29), rfl, by decide, rfl, fk_X7_20⟩
theorem fp_X7_20 : pm_fp RX7 20 7 0 true (.array .int) := ⟨(RX7, TX7, 29), rfl, by decide, rfl, fk_X7_20, rfl, by decide +kernel⟩
theorem fk_X7_24 : Cond.fieldLink RX7 24 RX7 (TX7 1).2.1 (TX7 1).2.2.1 ∈ pm_gw := pm_gw_of 761 (by decide +kernel) rfl
theorem fl_X7_24 : pm_fl RX7 24 7 1 := ⟨(RX7, TX7, 29), rfl, by decide, rfl, fk_X7_24⟩
theorem fp_X7_24 : pm_fp RX7 24 7 1 true (.array .int) := ⟨(RX7, TX7, 29), rfl, by decide, rfl, fk_X7_24, rfl, by decide +kernel⟩
theorem fk_X7_27 : Cond.fieldLink RX7 27 RX7 (TX7 2).2.1 (TX7 2).2.2.1 ∈ pm_gw := pm_gw_of 762 (by decide +kernel) rfl
theorem fl_X7_27 : pm_fl RX7 27 7 2 := ⟨(RX7, TX7, 29), rfl, by decide, rfl, fk_X7_27⟩
theorem fp_X7_27 : pm_fp RX7 27 7 2 true (.array .int) := ⟨(RX7, TX7, 29), rfl, by decide, rfl, fk_X7_27, rfl, by decide +kernel⟩
theorem fk_X7_30 : Cond.fieldLink RX7 30 RX7 (TX7 3).2.1 (TX7 3).2.2.1 ∈ pm_gw := pm_gw_of 763 (by decide +kernel) rfl
theorem fl_X7_30 : pm_fl RX7 30 7 3 := ⟨(RX7, TX7, 29), rfl, by decide, rfl, fk_X7_30⟩
theorem fp_X7_30 : pm_fp RX7 30 7 3 true (.array .int) := ⟨(RX7, TX7, 29), rfl, by decide, rfl, fk_X7_30, rfl, by decide +kernel⟩
theorem kc_X7_33 : Cond.constant RX7 33 (10000000) ∈ pm_gw := pm_gw_of 1014 (by decide +kernel) rfl
theorem lk_X7_34 : Cond.methodLink RX7 34 yX7_isFailure ∈ pm_gw := pm_gw_of 971 (by decide +kernel) rfl
theorem lk_X7_38 : Cond.methodLink RX7 38 yX7_numberOf ∈ pm_gw := pm_gw_of 870 (by decide +kernel) rfl
theorem lk_X7_42 : Cond.methodLink RX7 42 objectInit ∈ pm_gw := pm_gw_of 759 (by decide +kernel) rfl
theorem fk_X7_48 : Cond.fieldLink RX7 48 RX7 (TX7 5).2.1 (TX7 5).2.2.1 ∈ pm_gw := pm_gw_of 765 (by decide +kernel) rfl
theorem fl_X7_48 : pm_fl RX7 48 7 5 := ⟨(RX7, TX7, 29), rfl, by decide, rfl, fk_X7_48⟩
theorem fp_X7_48 : pm_fp RX7 48 7 5 true (.array .int) := ⟨(RX7, TX7, 29), rfl, by decide, rfl, fk_X7_48, rfl, by decide +kernel⟩
theorem fk_X7_51 : Cond.fieldLink RX7 51 RX7 (TX7 6).2.1 (TX7 6).2.2.1 ∈ pm_gw := pm_gw_of 766 (by decide +kernel) rfl
theorem fl_X7_51 : pm_fl RX7 51 7 6 := ⟨(RX7, TX7, 29), rfl, by decide, rfl, fk_X7_51⟩
theorem fp_X7_51 : pm_fp RX7 51 7 6 true (.array .int) := ⟨(RX7, TX7, 29), rfl, by decide, rfl, fk_X7_51, rfl, by decide +kernel⟩
theorem fk_X7_54 : Cond.fieldLink RX7 54 RX7 (TX7 7).2.1 (TX7 7).2.2.1 ∈ pm_gw := pm_gw_of 767 (by decide +kernel) rfl
theorem fl_X7_54 : pm_fl RX7 54 7 7 := ⟨(RX7, TX7, 29), rfl, by decide, rfl, fk_X7_54⟩
theorem fp_X7_54 : pm_fp RX7 54 7 7 true (.array .int) := ⟨(RX7, TX7, 29), rfl, by decide, rfl, fk_X7_54, rfl, by decide +kernel⟩
theorem fk_X7_57 : Cond.fieldLink RX7 57 RX7 (TX7 9).2.1 (TX7 9).2.2.1 ∈ pm_gw := pm_gw_of 769 (by decide +kernel) rfl
theorem fl_X7_57 : pm_fl RX7 57 7 9 := ⟨(RX7, TX7, 29), rfl, by decide, rfl, fk_X7_57⟩
theorem fp_X7_57 : pm_fp RX7 57 7 9 true (.array .int) := ⟨(RX7, TX7, 29), rfl, by decide, rfl, fk_X7_57, rfl, by decide +kernel⟩
theorem fk_X7_60 : Cond.fieldLink RX7 60 RX7 (TX7 11).2.1 (TX7 11).2.2.1 ∈ pm_gw := pm_gw_of 771 (by decide +kernel) rfl
theorem fl_X7_60 : pm_fl RX7 60 7 11 := ⟨(RX7, TX7, 29), rfl, by decide, rfl, fk_X7_60⟩
theorem fp_X7_60 : pm_fp RX7 60 7 11 true (.array .boolean) := ⟨(RX7, TX7, 29), rfl, by decide, rfl, fk_X7_60, rfl, by decide +kernel⟩
theorem fk_X7_64 : Cond.fieldLink RX7 64 RX7 (TX7 12).2.1 (TX7 12).2.2.1 ∈ pm_gw := pm_gw_of 772 (by decide +kernel) rfl
theorem fl_X7_64 : pm_fl RX7 64 7 12 := ⟨(RX7, TX7, 29), rfl, by decide, rfl, fk_X7_64⟩
theorem fp_X7_64 : pm_fp RX7 64 7 12 true (.array .boolean) := ⟨(RX7, TX7, 29), rfl, by decide, rfl, fk_X7_64, rfl, by decide +kernel⟩
theorem fk_X7_67 : Cond.fieldLink RX7 67 RX7 (TX7 13).2.1 (TX7 13).2.2.1 ∈ pm_gw := pm_gw_of 773 (by decide +kernel) rfl
theorem fl_X7_67 : pm_fl RX7 67 7 13 := ⟨(RX7, TX7, 29), rfl, by decide, rfl, fk_X7_67⟩
theorem fp_X7_67 : pm_fp RX7 67 7 13 true (.array .int) := ⟨(RX7, TX7, 29), rfl, by decide, rfl, fk_X7_67, rfl, by decide +kernel⟩
theorem fk_X7_70 : Cond.fieldLink RX7 70 RX7 (TX7 15).2.1 (TX7 15).2.2.1 ∈ pm_gw := pm_gw_of 775 (by decide +kernel) rfl
theorem fl_X7_70 : pm_fl RX7 70 7 15 := ⟨(RX7, TX7, 29), rfl, by decide, rfl, fk_X7_70⟩
theorem fp_X7_70 : pm_fp RX7 70 7 15 false .int := ⟨(RX7, TX7, 29), rfl, by decide, rfl, fk_X7_70, rfl, by decide +kernel⟩
theorem fk_X7_73 : Cond.fieldLink RX7 73 RX7 (TX7 20).2.1 (TX7 20).2.2.1 ∈ pm_gw := pm_gw_of 780 (by decide +kernel) rfl
theorem fl_X7_73 : pm_fl RX7 73 7 20 := ⟨(RX7, TX7, 29), rfl, by decide, rfl, fk_X7_73⟩
theorem fp_X7_73 : pm_fp RX7 73 7 20 true (.array .int) := ⟨(RX7, TX7, 29), rfl, by decide, rfl, fk_X7_73, rfl, by decide +kernel⟩
theorem fk_X7_76 : Cond.fieldLink RX7 76 RX7 (TX7 21).2.1 (TX7 21).2.2.1 ∈ pm_gw := pm_gw_of 781 (by decide +kernel) rfl
theorem fl_X7_76 : pm_fl RX7 76 7 21 := ⟨(RX7, TX7, 29), rfl, by decide, rfl, fk_X7_76⟩
theorem fp_X7_76 : pm_fp RX7 76 7 21 true (.array .int) := ⟨(RX7, TX7, 29), rfl, by decide, rfl, fk_X7_76, rfl, by decide +kernel⟩
theorem fk_X7_79 : Cond.fieldLink RX7 79 RX7 (TX7 23).2.1 (TX7 23).2.2.1 ∈ pm_gw := pm_gw_of 783 (by decide +kernel) rfl
theorem fl_X7_79 : pm_fl RX7 79 7 23 := ⟨(RX7, TX7, 29), rfl, by decide, rfl, fk_X7_79⟩
theorem fp_X7_79 : pm_fp RX7 79 7 23 true (.array .boolean) := ⟨(RX7, TX7, 29), rfl, by decide, rfl, fk_X7_79, rfl, by decide +kernel⟩
theorem fk_X7_82 : Cond.fieldLink RX7 82 RX7 (TX7 24).2.1 (TX7 24).2.2.1 ∈ pm_gw := pm_gw_of 784 (by decide +kernel) rfl
theorem fl_X7_82 : pm_fl RX7 82 7 24 := ⟨(RX7, TX7, 29), rfl, by decide, rfl, fk_X7_82⟩
theorem fp_X7_82 : pm_fp RX7 82 7 24 true (.array .int) := ⟨(RX7, TX7, 29), rfl, by decide, rfl, fk_X7_82, rfl, by decide +kernel⟩
theorem fk_X7_85 : Cond.fieldLink RX7 85 RX7 (TX7 25).2.1 (TX7 25).2.2.1 ∈ pm_gw := pm_gw_of 785 (by decide +kernel) rfl
theorem fl_X7_85 : pm_fl RX7 85 7 25 := ⟨(RX7, TX7, 29), rfl, by decide, rfl, fk_X7_85⟩
theorem fp_X7_85 : pm_fp RX7 85 7 25 true (.array .int) := ⟨(RX7, TX7, 29), rfl, by decide, rfl, fk_X7_85, rfl, by decide +kernel⟩
theorem fk_X7_88 : Cond.fieldLink RX7 88 RX7 (TX7 26).2.1 (TX7 26).2.2.1 ∈ pm_gw := pm_gw_of 786 (by decide +kernel) rfl
theorem fl_X7_88 : pm_fl RX7 88 7 26 := ⟨(RX7, TX7, 29), rfl, by decide, rfl, fk_X7_88⟩
theorem fp_X7_88 : pm_fp RX7 88 7 26 true (.array .int) := ⟨(RX7, TX7, 29), rfl, by decide, rfl, fk_X7_88, rfl, by decide +kernel⟩
theorem fk_X7_91 : Cond.fieldLink RX7 91 RX7 (TX7 27).2.1 (TX7 27).2.2.1 ∈ pm_gw := pm_gw_of 787 (by decide +kernel) rfl
theorem fl_X7_91 : pm_fl RX7 91 7 27 := ⟨(RX7, TX7, 29), rfl, by decide, rfl, fk_X7_91⟩
theorem fp_X7_91 : pm_fp RX7 91 7 27 true (.array .long) := ⟨(RX7, TX7, 29), rfl, by decide, rfl, fk_X7_91, rfl, by decide +kernel⟩
theorem fk_X7_95 : Cond.fieldLink RX7 95 RX7 (TX7 28).2.1 (TX7 28).2.2.1 ∈ pm_gw := pm_gw_of 788 (by decide +kernel) rfl
theorem fl_X7_95 : pm_fl RX7 95 7 28 := ⟨(RX7, TX7, 29), rfl, by decide, rfl, fk_X7_95⟩
theorem fp_X7_95 : pm_fp RX7 95 7 28 true (.array .long) := ⟨(RX7, TX7, 29), rfl, by decide, rfl, fk_X7_95, rfl, by decide +kernel⟩
theorem lk_X7_98 : Cond.methodLink RX7 98 yX7_traceAt ∈ pm_gw := pm_gw_of 907 (by decide +kernel) rfl
theorem lk_X7_101 : Cond.methodLink RX7 101 yX7_isTarget ∈ pm_gw := pm_gw_of 886 (by decide +kernel) rfl
theorem lk_X7_104 : Cond.methodLink RX7 104 yX7_fails ∈ pm_gw := pm_gw_of 939 (by decide +kernel) rfl
theorem lk_X7_108 : Cond.methodLink RX7 108 yX7_isInput ∈ pm_gw := pm_gw_of 853 (by decide +kernel) rfl
theorem kc_X7_111 : Cond.constantLong RX7 111 (-1000000) ∈ pm_gw := pm_gw_of 860 (by decide +kernel) rfl
theorem kc_X7_113 : Cond.constantLong RX7 113 (1000000) ∈ pm_gw := pm_gw_of 861 (by decide +kernel) rfl
theorem lk_X7_115 : Cond.methodLink RX7 115 yX7_numberResult ∈ pm_gw := pm_gw_of 862 (by decide +kernel) rfl
theorem kc_X7_118 : Cond.constantLong RX7 118 (127) ∈ pm_gw := pm_gw_of 877 (by decide +kernel) rfl
theorem fk_X7_120 : Cond.fieldLink RX7 120 RX7 (TX7 10).2.1 (TX7 10).2.2.1 ∈ pm_gw := pm_gw_of 770 (by decide +kernel) rfl
theorem fl_X7_120 : pm_fl RX7 120 7 10 := ⟨(RX7, TX7, 29), rfl, by decide, rfl, fk_X7_120⟩
theorem fp_X7_120 : pm_fp RX7 120 7 10 false .int := ⟨(RX7, TX7, 29), rfl, by decide, rfl, fk_X7_120, rfl, by decide +kernel⟩
theorem lk_X7_123 : Cond.methodLink RX7 123 yX7_isAsking ∈ pm_gw := pm_gw_of 898 (by decide +kernel) rfl
theorem kc_X7_126 : Cond.constantLong RX7 126 (48) ∈ pm_gw := pm_gw_of 905 (by decide +kernel) rfl
theorem kc_X7_128 : Cond.constantLong RX7 128 (57) ∈ pm_gw := pm_gw_of 906 (by decide +kernel) rfl
theorem lk_X7_130 : Cond.methodLink RX7 130 yX7_isSign ∈ pm_gw := pm_gw_of 895 (by decide +kernel) rfl
theorem lk_X7_133 : Cond.methodLink RX7 133 yX7_isFigure ∈ pm_gw := pm_gw_of 901 (by decide +kernel) rfl
theorem lk_X7_136 : Cond.methodLink RX7 136 yX7_fault ∈ pm_gw := pm_gw_of 891 (by decide +kernel) rfl
theorem lk_X7_140 : Cond.methodLink RX7 140 yX7_ruled ∈ pm_gw := pm_gw_of 915 (by decide +kernel) rfl
theorem fk_X7_144 : Cond.fieldLink RX7 144 RX7 (TX7 14).2.1 (TX7 14).2.2.1 ∈ pm_gw := pm_gw_of 774 (by decide +kernel) rfl
theorem fl_X7_144 : pm_fl RX7 144 7 14 := ⟨(RX7, TX7, 29), rfl, by decide, rfl, fk_X7_144⟩
theorem fp_X7_144 : pm_fp RX7 144 7 14 false .int := ⟨(RX7, TX7, 29), rfl, by decide, rfl, fk_X7_144, rfl, by decide +kernel⟩
theorem lk_X7_147 : Cond.methodLink RX7 147 yX7_traced ∈ pm_gw := pm_gw_of 943 (by decide +kernel) rfl
theorem lk_X7_150 : Cond.methodLink RX7 150 yX7_isAsSeen ∈ pm_gw := pm_gw_of 947 (by decide +kernel) rfl
theorem fk_X7_153 : Cond.fieldLink RX7 153 RX7 (TX7 18).2.1 (TX7 18).2.2.1 ∈ pm_gw := pm_gw_of 778 (by decide +kernel) rfl
theorem fl_X7_153 : pm_fl RX7 153 7 18 := ⟨(RX7, TX7, 29), rfl, by decide, rfl, fk_X7_153⟩
theorem fp_X7_153 : pm_fp RX7 153 7 18 false .int := ⟨(RX7, TX7, 29), rfl, by decide, rfl, fk_X7_153, rfl, by decide +kernel⟩
theorem lk_X7_156 : Cond.methodLink RX7 156 yX7_has ∈ pm_gw := pm_gw_of 955 (by decide +kernel) rfl
theorem lk_X7_159 : Cond.methodLink RX7 159 yX7_runs ∈ pm_gw := pm_gw_of 959 (by decide +kernel) rfl
theorem fk_X7_162 : Cond.fieldLink RX7 162 RX7 (TX7 19).2.1 (TX7 19).2.2.1 ∈ pm_gw := pm_gw_of 779 (by decide +kernel) rfl
theorem fl_X7_162 : pm_fl RX7 162 7 19 := ⟨(RX7, TX7, 29), rfl, by decide, rfl, fk_X7_162⟩
theorem fp_X7_162 : pm_fp RX7 162 7 19 false .int := ⟨(RX7, TX7, 29), rfl, by decide, rfl, fk_X7_162, rfl, by decide +kernel⟩
theorem lk_X7_165 : Cond.methodLink RX7 165 yX7_finishes ∈ pm_gw := pm_gw_of 978 (by decide +kernel) rfl
theorem lk_X7_169 : Cond.methodLink RX7 169 yX7_isDone ∈ pm_gw := pm_gw_of 951 (by decide +kernel) rfl
theorem lk_X7_172 : Cond.methodLink RX7 172 yX7_builds ∈ pm_gw := pm_gw_of 935 (by decide +kernel) rfl
theorem fk_X7_175 : Cond.fieldLink RX7 175 RX7 (TX7 22).2.1 (TX7 22).2.2.1 ∈ pm_gw := pm_gw_of 782 (by decide +kernel) rfl
theorem fl_X7_175 : pm_fl RX7 175 7 22 := ⟨(RX7, TX7, 29), rfl, by decide, rfl, fk_X7_175⟩
theorem fp_X7_175 : pm_fp RX7 175 7 22 false .int := ⟨(RX7, TX7, 29), rfl, by decide, rfl, fk_X7_175, rfl, by decide +kernel⟩
theorem fk_X7_178 : Cond.fieldLink RX7 178 RX7 (TX7 16).2.1 (TX7 16).2.2.1 ∈ pm_gw := pm_gw_of 776 (by decide +kernel) rfl
theorem fl_X7_178 : pm_fl RX7 178 7 16 := ⟨(RX7, TX7, 29), rfl, by decide, rfl, fk_X7_178⟩
theorem fp_X7_178 : pm_fp RX7 178 7 16 false .int := ⟨(RX7, TX7, 29), rfl, by decide, rfl, fk_X7_178, rfl, by decide +kernel⟩
theorem lk_X7_181 : Cond.methodLink RX7 181 yX7_goes ∈ pm_gw := pm_gw_of 963 (by decide +kernel) rfl
theorem fk_X7_184 : Cond.fieldLink RX7 184 RX7 (TX7 17).2.1 (TX7 17).2.2.1 ∈ pm_gw := pm_gw_of 777 (by decide +kernel) rfl
theorem fl_X7_184 : pm_fl RX7 184 7 17 := ⟨(RX7, TX7, 29), rfl, by decide, rfl, fk_X7_184⟩
theorem fp_X7_184 : pm_fp RX7 184 7 17 false .int := ⟨(RX7, TX7, 29), rfl, by decide, rfl, fk_X7_184, rfl, by decide +kernel⟩
theorem lk_X7_187 : Cond.methodLink RX7 187 yX7_isOfRing ∈ pm_gw := pm_gw_of 974 (by decide +kernel) rfl
theorem lk_X7_190 : Cond.methodLink RX7 190 yX7_notes ∈ pm_gw := pm_gw_of 967 (by decide +kernel) rfl
theorem lk_X7_194 : Cond.methodLink RX7 194 yX7_manyDone ∈ pm_gw := pm_gw_of 982 (by decide +kernel) rfl
theorem lk_X7_197 : Cond.methodLink RX7 197 yX7_built ∈ pm_gw := pm_gw_of 931 (by decide +kernel) rfl
theorem kc_X7_201 : Cond.constant RX7 201 (65535) ∈ pm_gw := pm_gw_of 990 (by decide +kernel) rfl
theorem kc_X7_202 : Cond.constantLong RX7 202 (65535) ∈ pm_gw := pm_gw_of 995 (by decide +kernel) rfl
theorem lk_X7_204 : Cond.methodLink RX7 204 yX7_pours ∈ pm_gw := pm_gw_of 1000 (by decide +kernel) rfl
theorem lk_X7_208 : Cond.methodLink RX7 208 yX7_isKey ∈ pm_gw := pm_gw_of 1007 (by decide +kernel) rfl
theorem lk_X7_211 : Cond.methodLink RX7 211 yX7_toldOf ∈ pm_gw := pm_gw_of 1010 (by decide +kernel) rfl
theorem kc_X7_214 : Cond.constantLong RX7 214 (2) ∈ pm_gw := pm_gw_of 1019 (by decide +kernel) rfl
theorem lk_X7_216 : Cond.methodLink RX7 216 yX7_causeOf ∈ pm_gw := pm_gw_of 1020 (by decide +kernel) rfl
theorem lk_X7_219 : Cond.methodLink RX7 219 yX7_amiss ∈ pm_gw := pm_gw_of 1040 (by decide +kernel) rfl
theorem lk_X7_222 : Cond.methodLink RX7 222 yX7_isTraced ∈ pm_gw := pm_gw_of 1052 (by decide +kernel) rfl
theorem lk_X7_226 : Cond.methodLink RX7 226 yJ9_max_7cf53 ∈ pm_gw := pm_gw_of 1060 (by decide +kernel) rfl
theorem lk_X7_231 : Cond.methodLink RX7 231 yX7_having ∈ pm_gw := pm_gw_of 1081 (by decide +kernel) rfl
theorem kc_X7_234 : Cond.constantLong RX7 234 (3) ∈ pm_gw := pm_gw_of 1092 (by decide +kernel) rfl
theorem lk_X7_236 : Cond.methodLink RX7 236 yX7_isList ∈ pm_gw := pm_gw_of 1089 (by decide +kernel) rfl
theorem kc_X7_239 : Cond.constantLong RX7 239 (-9223372036854775808) ∈ pm_gw := pm_gw_of 1101 (by decide +kernel) rfl
theorem fk_X7_241 : Cond.fieldLink RX7 241 RX7 (TX7 8).2.1 (TX7 8).2.2.1 ∈ pm_gw := pm_gw_of 768 (by decide +kernel) rfl
theorem fl_X7_241 : pm_fl RX7 241 7 8 := ⟨(RX7, TX7, 29), rfl, by decide, rfl, fk_X7_241⟩
theorem fp_X7_241 : pm_fp RX7 241 7 8 false .boolean := ⟨(RX7, TX7, 29), rfl, by decide, rfl, fk_X7_241, rfl, by decide +kernel⟩
theorem in_obj : Cond.instanceMethod objectInit ∈ pm_gw := pm_gw_of 53 (by decide +kernel) rfl
theorem co_obj : Cond.code objectInit ⟨#[0xb1]⟩ 1 none ∈ pm_gw := pm_gw_of 54 (by decide +kernel) rfl
theorem st_copy : Cond.static arraycopyName ∈ pm_gw := pm_gw_of 377 (by decide +kernel) rfl
theorem nat_copy : Cond.native arraycopyName ∈ pm_gw := pm_gw_of 378 (by decide +kernel) rfl
end
section
/-! rules in the forms in which the walks use them -/
def bi (p : Bool) : Int32 := if p then 1 else 0
theorem bi_t : bi true = 1 := rfl
theorem bi_f : bi false = 0 := rfl
theorem bi_eq0 {p : Bool} : bi p = 0 ↔ p = false := by cases p <;> simp [bi]
theorem bi_01 (p : Bool) : bi p = 0 ∨ bi p = 1 := by cases p <;> simp [bi]
theorem bi_dec {p : Bool} {x : Int32} (h : x = 0 ∨ x = 1) (hp : p = decide (x = 1)) : x = bi p := by subst hp; rcases h with rfl | rfl <;> rfl
theorem lgc_lt {x y : Int64} : lg_cmp x y < 0 ↔ x < y := by
  unfold lg_cmp
  split
  · next h => constructor
              · intro h2; exact absurd h2 (by decide)
              · intro h2; exact absurd h2 (lg_lt_not h)
  · next h => split
              · next h3 => subst h3; simp
              · next h3 => constructor
                           · intro _
                             have : x.toInt ≠ y.toInt := fun e => h3 (Int64.toInt_inj.mp e)
                             simp only [gt_iff_lt, Int64.lt_iff_toInt_lt] at h ⊢
                             omega
                           · intro _; decide
theorem lgc_gt {x y : Int64} : 0 < lg_cmp x y ↔ y < x := by
  unfold lg_cmp
  split
  · next h => exact ⟨fun _ => h, fun _ => by decide⟩
  · next h => split
              · exact ⟨fun h2 => absurd h2 (by decide), fun h2 => absurd h2 h⟩
              · exact ⟨fun h2 => absurd h2 (by decide), fun h2 => absurd h2 h⟩
theorem lgc_eq {x y : Int64} : lg_cmp x y = 0 ↔ x = y := by
  unfold lg_cmp
  split
  · next h => exact ⟨fun h2 => absurd h2 (by decide), fun h2 => absurd h2.symm (lg_lt_ne h)⟩
  · next h => split
              · next h3 => exact ⟨fun _ => h3, fun _ => rfl⟩
              · next h3 => exact ⟨fun h2 => absurd h2 (by decide), fun h2 => absurd h2 h3⟩
theorem lgc_ge {x y : Int64} : 0 ≤ lg_cmp x y ↔ ¬ x < y := by rw [← lgc_lt, Int32.not_lt]
theorem lgc_le {x y : Int64} : lg_cmp x y ≤ 0 ↔ ¬ y < x := by rw [← lgc_gt, Int32.not_lt]
section PW
variable {B : Nat} {D : va_G} {d : Nat} {μ : pm_M} {pc : Nat} {ls : pm_Ls} {st : List Value} {h : pm_H} {n w : Nat} {f : Nat → Option va_E} {r : Option Value} {h1 : pm_H}
theorem px_ifb_eq {p : Bool} {off : Int} {tgt : Nat} (hd : decode μ.2.1 pc = .ok (.ifCond .eq off, 3)) (ht : (pc : Int) + off = (tgt : Int)) (kt : p = false → EX B D d μ tgt ls st h r h1) (kf : p = true → EX B D d μ (pc + 3) ls st h r h1) : EX B D d μ pc ls (.int (bi p) :: st) h r h1 :=
  px_if_eq hd ht (fun hc => kt (bi_eq0.mp hc)) (fun hc => kf (by cases p with | false => exact absurd rfl hc | true => rfl))
theorem px_ifb_ne {p : Bool} {off : Int} {tgt : Nat} (hd : decode μ.2.1 pc = .ok (.ifCond .ne off, 3)) (ht : (pc : Int) + off = (tgt : Int)) (kt : p = true → EX B D d μ tgt ls st h r h1) (kf : p = false → EX B D d μ (pc + 3) ls st h r h1) : EX B D d μ pc ls (.int (bi p) :: st) h r h1 :=
  px_if_ne hd ht (fun hc => kt (by cases p with | false => exact absurd rfl hc | true => rfl)) (fun hc => kf (bi_eq0.mp hc))
theorem px_l_eq {x y : Int64} {off : Int} {tgt : Nat} (hd0 : decode μ.2.1 pc = .ok (.lcmp, 1)) (hd : decode μ.2.1 (pc + 1) = .ok (.ifCond .eq off, 3)) (ht : ((pc + 1 : Nat) : Int) + off = (tgt : Int)) (kt : x = y → EX B D d μ tgt ls st h r h1) (kf : ¬ x = y → EX B D d μ (pc + 1 + 3) ls st h r h1) : EX B D d μ pc ls (.long y :: .long x :: st) h r h1 :=
  px_lcmp hd0 (px_if_eq hd ht (fun hc => kt (lgc_eq.mp hc)) (fun hc => (kf (fun h => hc (lgc_eq.mpr h)))))
theorem px_l_lt {x y : Int64} {off : Int} {tgt : Nat} (hd0 : decode μ.2.1 pc = .ok (.lcmp, 1)) (hd : decode μ.2.1 (pc + 1) = .ok (.ifCond .lt off, 3)) (ht : ((pc + 1 : Nat) : Int) + off = (tgt : Int)) (kt : x < y → EX B D d μ tgt ls st h r h1) (kf : ¬ x < y → EX B D d μ (pc + 1 + 3) ls st h r h1) : EX B D d μ pc ls (.long y :: .long x :: st) h r h1 :=
  px_lcmp hd0 (px_if_lt hd ht (fun hc => kt (lgc_lt.mp hc)) (fun hc => (kf (fun h => hc (lgc_lt.mpr h)))))
theorem px_l_gt {x y : Int64} {off : Int} {tgt : Nat} (hd0 : decode μ.2.1 pc = .ok (.lcmp, 1)) (hd : decode μ.2.1 (pc + 1) = .ok (.ifCond .gt off, 3)) (ht : ((pc + 1 : Nat) : Int) + off = (tgt : Int)) (kt : y < x → EX B D d μ tgt ls st h r h1) (kf : ¬ y < x → EX B D d μ (pc + 1 + 3) ls st h r h1) : EX B D d μ pc ls (.long y :: .long x :: st) h r h1 :=
  px_lcmp hd0 (px_if_gt hd ht (fun hc => kt (lgc_gt.mp hc)) (fun hc => (kf (fun h => hc (lgc_gt.mpr h)))))
theorem px_l_ge {x y : Int64} {off : Int} {tgt : Nat} (hd0 : decode μ.2.1 pc = .ok (.lcmp, 1)) (hd : decode μ.2.1 (pc + 1) = .ok (.ifCond .ge off, 3)) (ht : ((pc + 1 : Nat) : Int) + off = (tgt : Int)) (kt : ¬ x < y → EX B D d μ tgt ls st h r h1) (kf : x < y → EX B D d μ (pc + 1 + 3) ls st h r h1) : EX B D d μ pc ls (.long y :: .long x :: st) h r h1 :=
  px_lcmp hd0 (px_if_ge hd ht (fun hc => kt (lgc_ge.mp hc)) (fun hc => (kf (Decidable.not_not.mp (fun h => hc (lgc_ge.mpr h))))))
theorem px_l_le {x y : Int64} {off : Int} {tgt : Nat} (hd0 : decode μ.2.1 pc = .ok (.lcmp, 1)) (hd : decode μ.2.1 (pc + 1) = .ok (.ifCond .le off, 3)) (ht : ((pc + 1 : Nat) : Int) + off = (tgt : Int)) (kt : ¬ y < x → EX B D d μ tgt ls st h r h1) (kf : y < x → EX B D d μ (pc + 1 + 3) ls st h r h1) : EX B D d μ pc ls (.long y :: .long x :: st) h r h1 :=
  px_lcmp hd0 (px_if_le hd ht (fun hc => kt (lgc_le.mp hc)) (fun hc => (kf (Decidable.not_not.mp (fun h => hc (lgc_le.mpr h))))))
theorem px_l_ne {x y : Int64} {off : Int} {tgt : Nat} (hd0 : decode μ.2.1 pc = .ok (.lcmp, 1)) (hd : decode μ.2.1 (pc + 1) = .ok (.ifCond .ne off, 3)) (ht : ((pc + 1 : Nat) : Int) + off = (tgt : Int)) (kt : ¬ x = y → EX B D d μ tgt ls st h r h1) (kf : x = y → EX B D d μ (pc + 1 + 3) ls st h r h1) : EX B D d μ pc ls (.long y :: .long x :: st) h r h1 :=
  px_lcmp hd0 (px_if_ne hd ht (fun hc => kt (fun h => hc (lgc_eq.mpr h))) (fun hc => kf (lgc_eq.mp hc)))
theorem px_reti {v : Int32} (hd : decode μ.2.1 pc = .ok (pm_ret μ.2.2.2, 1)) (hr : r = some (.int v)) (hh : h1 = h) : EX B D d μ pc ls [.int v] h r h1 := by
  subst hr; subst hh; obtain ⟨n, w, f⟩ := h1; exact px_ret rfl hd
theorem px_retl {v : Int64} (hd : decode μ.2.1 pc = .ok (pm_ret μ.2.2.2, 1)) (hr : r = some (.long v)) (hh : h1 = h) : EX B D d μ pc ls [.long v] h r h1 := by
  subst hr; subst hh; obtain ⟨n, w, f⟩ := h1; exact px_ret rfl hd
theorem px_reta {v : Value} (hd : decode μ.2.1 pc = .ok (pm_ret μ.2.2.2, 1)) (hr : r = some v) (hh : h1 = h) : EX B D d μ pc ls [v] h r h1 := by
  subst hr; subst hh; obtain ⟨n, w, f⟩ := h1; exact px_ret rfl hd
theorem px_retv (hd : decode μ.2.1 pc = .ok (pm_ret μ.2.2.2, 1)) (hr : r = none) (hh : h1 = h) : EX B D d μ pc ls [] h r h1 := by
  subst hr; subst hh; obtain ⟨n, w, f⟩ := h1; exact px_ret rfl hd
/-- the joined road: a condition's two roads that come to one place -/
theorem px_eqst {st' : List Value} (he : st = st') (kk : EX B D d μ pc ls st' h r h1) : EX B D d μ pc ls st h r h1 := he ▸ kk
end PW
section PC
variable {B : Nat} {D : va_G} {d : Nat} {μ : pm_M} {pc : Nat} {ls : pm_Ls} {st : List Value} {n w : Nat} {f : Nat → Option va_E} {r : Option Value} {h1 : pm_H}
theorem px_callV1 {ν : pm_M} {i ci b k d1 : Nat} {q : vw_C} {fs : List Value} {As sk : List Value} {v : Value} {h2 : pm_H} (hq0 : pm_cl[ci]? = some q) (hqc : q.1 = ν.1.cls) (hl : Cond.methodLink μ.1.cls i ν.1 ∈ pm_gw) (hin : Cond.instanceMethod ν.1 ∈ pm_gw) (hse : Cond.selects ν.1.cls ν.1 ν.1 ∈ pm_gw) (hν : pm_mok ν k) (hd : decode μ.2.1 pc = .ok (.invokevirtual i, 3)) (hC : CT B D d1 ν (.ref b :: As) (n, w, f) (some v) h2) (hb : f b = some (.inr (ci, fs))) (hk : As.length = k) (hsk : sk = As.reverse ++ .ref b :: st) (hdd : d1 + 1 ≤ d) (hst : st.length ≤ 4) (kk : EX B D d μ (pc + 3) ls (v :: st) h2 r h1) : EX B D d μ pc ls sk (n, w, f) r h1 :=
  px_callV hq0 hqc hl hin hse hν hd hC hb hk hsk hdd hst kk
theorem px_callV0 {ν : pm_M} {i ci b k d1 : Nat} {q : vw_C} {fs : List Value} {As sk : List Value} {h2 : pm_H} (hq0 : pm_cl[ci]? = some q) (hqc : q.1 = ν.1.cls) (hl : Cond.methodLink μ.1.cls i ν.1 ∈ pm_gw) (hin : Cond.instanceMethod ν.1 ∈ pm_gw) (hse : Cond.selects ν.1.cls ν.1 ν.1 ∈ pm_gw) (hν : pm_mok ν k) (hd : decode μ.2.1 pc = .ok (.invokevirtual i, 3)) (hC : CT B D d1 ν (.ref b :: As) (n, w, f) none h2) (hb : f b = some (.inr (ci, fs))) (hk : As.length = k) (hsk : sk = As.reverse ++ .ref b :: st) (hdd : d1 + 1 ≤ d) (hst : st.length ≤ 4) (kk : EX B D d μ (pc + 3) ls st h2 r h1) : EX B D d μ pc ls sk (n, w, f) r h1 :=
  px_callV hq0 hqc hl hin hse hν hd hC hb hk hsk hdd hst kk
theorem px_callS1 {ν : pm_M} {i k d1 : Nat} {As sk : List Value} {v : Value} {h2 : pm_H} (hl : Cond.methodLink μ.1.cls i ν.1 ∈ pm_gw) (hstt : Cond.static ν.1 ∈ pm_gw) (hν : pm_mok ν k) (hd : decode μ.2.1 pc = .ok (.invokestatic i, 3)) (hC : CT B D d1 ν As (n, w, f) (some v) h2) (hk : As.length = k) (hsk : sk = As.reverse ++ st) (hdd : d1 + 1 ≤ d) (hst : st.length ≤ 4) (kk : EX B D d μ (pc + 3) ls (v :: st) h2 r h1) : EX B D d μ pc ls sk (n, w, f) r h1 :=
  px_callS hl hstt hν hd hC hk hsk hdd hst kk
theorem px_callS0 {ν : pm_M} {i k d1 : Nat} {As sk : List Value} {h2 : pm_H} (hl : Cond.methodLink μ.1.cls i ν.1 ∈ pm_gw) (hstt : Cond.static ν.1 ∈ pm_gw) (hν : pm_mok ν k) (hd : decode μ.2.1 pc = .ok (.invokestatic i, 3)) (hC : CT B D d1 ν As (n, w, f) none h2) (hk : As.length = k) (hsk : sk = As.reverse ++ st) (hdd : d1 + 1 ≤ d) (hst : st.length ≤ 4) (kk : EX B D d μ (pc + 3) ls st h2 r h1) : EX B D d μ pc ls sk (n, w, f) r h1 :=
  px_callS hl hstt hν hd hC hk hsk hdd hst kk
theorem px_callSN1 {ν : pm_M} {i k d1 : Nat} {As sk : List Value} {v : Value} {h2 : pm_H} (hl : pm_lkN μ.1.cls i ν.1) (hstt : Cond.static ν.1 ∈ pm_gw) (hν : pm_mok ν k) (hd : decode μ.2.1 pc = .ok (.invokestatic i, 3)) (hC : CT B D d1 ν As (n, w, f) (some v) h2) (hk : As.length = k) (hsk : sk = As.reverse ++ st) (hdd : d1 + 1 ≤ d) (hst : st.length ≤ 4) (kk : EX B D d μ (pc + 3) ls (v :: st) h2 r h1) : EX B D d μ pc ls sk (n, w, f) r h1 :=
  px_callSN hl hstt hν hd hC hk hsk hdd hst kk
theorem px_callSN0 {ν : pm_M} {i k d1 : Nat} {As sk : List Value} {h2 : pm_H} (hl : pm_lkN μ.1.cls i ν.1) (hstt : Cond.static ν.1 ∈ pm_gw) (hν : pm_mok ν k) (hd : decode μ.2.1 pc = .ok (.invokestatic i, 3)) (hC : CT B D d1 ν As (n, w, f) none h2) (hk : As.length = k) (hsk : sk = As.reverse ++ st) (hdd : d1 + 1 ≤ d) (hst : st.length ≤ 4) (kk : EX B D d μ (pc + 3) ls st h2 r h1) : EX B D d μ pc ls sk (n, w, f) r h1 :=
  px_callSN hl hstt hν hd hC hk hsk hdd hst kk
theorem px_copyi {i a0 a1 m0 m1 : Nat} {g0 g1 : Nat → Int32} {sp dp k : Int32} (hl : Cond.methodLink μ.1.cls i arraycopyName ∈ pm_gw) (hd : decode μ.2.1 pc = .ok (.invokestatic i, 3)) (ha0 : f a0 = some (.inl (0, m0, .inl g0))) (ha1 : f a1 = some (.inl (0, m1, .inl g1))) (hs1 : ¬ sp < 0) (hs2 : ¬ dp < 0) (hs3 : ¬ k < 0) (hs4 : sp.toNatClampNeg + k.toNatClampNeg ≤ m0) (hs5 : dp.toNatClampNeg + k.toNatClampNeg ≤ m1) (hd0 : 1 ≤ d) (hst : st.length ≤ 4)
    (kk : EX B D d μ (pc + 3) ls st (n, w, va_up f a1 (some (.inl (0, m1, .inl (va_cpy g0 g1 sp.toNatClampNeg dp.toNatClampNeg k.toNatClampNeg))))) r h1) : EX B D d μ pc ls (.int k :: .int dp :: .ref a1 :: .int sp :: .ref a0 :: st) (n, w, f) r h1 := by
  refine ⟨kk.1, fun p l e R s m args below meth c H locs lsA n0 w0 Q cx hl' hR hlo e1 e2 e3 e4 hq => ?_⟩
  have hts := cx.2.2.2.2.2.1
  have h8 := pm_rest4 hst
  have hR1 := cx.2.2.2.2.2.2.2.2.2.1
  have hR2 := cx.2.2.2.2.2.2.2.2.2.2
  obtain ⟨hBa0, c0, hA0, hRA0, hc0⟩ := pm_arr (hR.2.2 a0 _ ha0) (by decide)
  obtain ⟨hBa1, c1, hA1, hRA1, hc1⟩ := pm_arr (hR.2.2 a1 _ ha1) (by decide)
  obtain ⟨-, k0, hk0, cm0, hkk0⟩ := hA0 m0 (fun j => .int (g0 j))
  obtain ⟨-, k1, hk1, cm1, hkk1⟩ := hA1 m1 (fun j => .int (g1 j))
  have nn : ∀ z : Int32, ¬ z < 0 → z.toInt = (z.toNatClampNeg : Int) := by
    intro z hz
    have hz0 : (0 : Int) ≤ z.toInt := by
      have := Int32.not_lt.mp hz
      simpa using Int32.le_iff_toInt_le.mp this
    show z.toInt = ((z.toInt.toNat : Nat) : Int)
    omega
  intro T hT X
  obtain ⟨vm', X', step⟩ := X.arraycopy cx.1 cx.2.2.2.2.1 (hts _ hl) (hts _ nat_copy) (hts _ st_copy) (hts _ ini_RJ10) (src := a0) (dst := a1) (cs := vp_cell c0 (m0, .inl g0)) (cd := vp_cell c1 (m1, .inl g1)) (srcPos := sp) (destPos := dp) (n := k) (by rw [hT]; exact hc0) (by rw [hT]; exact hc1)
    (fun _ h => by cases h) (fun _ h => by cases h) (fun h => by cases h) (fun h => by cases h) hk0 hk1 hkk0 hkk1 (by rfl) hs1 hs2 hs3
    (by rw [nn sp hs1, nn k hs3]; show ¬ _ > ((arrV c0 m0 (fun j => .int (g0 j))).slots.size : Int); rw [arrV_size]; omega)
    (by rw [nn dp hs2, nn k hs3]; show ¬ _ > ((arrV c1 m1 (fun j => .int (g1 j))).slots.size : Int); rw [arrV_size]; omega)
    (fun vm₁ _ i hi => by
      have e : (vp_cell c0 (m0, .inl g0)).slots.getD (sp.toNatClampNeg + i) .null = .int (g0 (sp.toNatClampNeg + i)) := by
        show (arrV c0 m0 (fun j => .int (g0 j))).slots.getD _ _ = _
        rw [Array.getD_eq_getD_getElem?, arrV_read _ _ (by omega)]
        rfl
      refine ⟨?_, ?_⟩
      · rw [e]
        rfl
      · rw [e]
        exact trivial)
    (g := F0 m pc lsA (.int k :: .int dp :: .ref a1 :: .int sp :: .ref a0 :: st)) rfl (by rw [cx.2.2.2.1]; exact hl'.1) (rest := st) rfl (by rw [cx.2.1]; exact hd) (by omega) (by show 2 * 0 + _ + (7 + 11) ≤ _; omega)
  have e5 : copied (vp_cell c0 (m0, .inl g0)) (vp_cell c1 (m1, .inl g1)) sp dp k = vp_cell c1 (m1, .inl (va_cpy g0 g1 sp.toNatClampNeg dp.toNatClampNeg k.toNatClampNeg)) := va_copied (fun z => .int z) c0 c1 g0 g1 hs4
  rw [e5] at X' step
  have hl2 : a1 < H.size := (Array.getElem?_eq_some_iff.mp hc1).1
  have hheap : ((T.setVm vm').setCell a1 (vp_cell c1 (m1, .inl (va_cpy g0 g1 sp.toNatClampNeg dp.toNatClampNeg k.toNatClampNeg)))).heap = H.setIfInBounds a1 (vp_cell c1 (m1, .inl (va_cpy g0 g1 sp.toNatClampNeg dp.toNatClampNeg k.toNatClampNeg))) := by rw [← hT]; rfl
  have oq : ∀ q : Nat, q ≠ a1 → (H.setIfInBounds a1 (vp_cell c1 (m1, .inl (va_cpy g0 g1 sp.toNatClampNeg dp.toNatClampNeg k.toNatClampNeg))))[q]? = H[q]? := fun q hq => by simp [Array.getElem?_setIfInBounds, Ne.symm hq]
  obtain ⟨t, b1, b2⟩ := kk.2 p l e R s m args below meth c _ _ lsA n0 w0 Q cx hl' (hR.set (pm_arr' (by decide) ⟨hBa1, c1, hA1, hRA1, (show (H.setIfInBounds a1 _)[a1]? = some _ by simp [Array.getElem?_setIfInBounds, hl2])⟩) (by simp) oq) (fun q hq => by
      rcases List.mem_append.mp hq with h | h
      · exact hlo q h
      · obtain ⟨z, -, hz⟩ := List.mem_map.mp h
        rw [← hz]
        exact hBa1) e1 e2 e3 e4 hq _ hheap X'
  exact ⟨t, step t b1, b2⟩
theorem px_copyl {i a0 a1 m0 m1 : Nat} {g0 g1 : Nat → Int64} {sp dp k : Int32} (hl : Cond.methodLink μ.1.cls i arraycopyName ∈ pm_gw) (hd : decode μ.2.1 pc = .ok (.invokestatic i, 3)) (ha0 : f a0 = some (.inl (1, m0, .inr (.inl g0)))) (ha1 : f a1 = some (.inl (1, m1, .inr (.inl g1)))) (hs1 : ¬ sp < 0) (hs2 : ¬ dp < 0) (hs3 : ¬ k < 0) (hs4 : sp.toNatClampNeg + k.toNatClampNeg ≤ m0) (hs5 : dp.toNatClampNeg + k.toNatClampNeg ≤ m1) (hd0 : 1 ≤ d) (hst : st.length ≤ 4)
    (kk : EX B D d μ (pc + 3) ls st (n, w, va_up f a1 (some (.inl (1, m1, .inr (.inl (va_cpy g0 g1 sp.toNatClampNeg dp.toNatClampNeg k.toNatClampNeg)))))) r h1) : EX B D d μ pc ls (.int k :: .int dp :: .ref a1 :: .int sp :: .ref a0 :: st) (n, w, f) r h1 := by
  refine ⟨kk.1, fun p l e R s m args below meth c H locs lsA n0 w0 Q cx hl' hR hlo e1 e2 e3 e4 hq => ?_⟩
  have hts := cx.2.2.2.2.2.1
  have h8 := pm_rest4 hst
  have hR1 := cx.2.2.2.2.2.2.2.2.2.1
  have hR2 := cx.2.2.2.2.2.2.2.2.2.2
  obtain ⟨hBa0, c0, hA0, hRA0, hc0⟩ := pm_arr (hR.2.2 a0 _ ha0) (by decide)
  obtain ⟨hBa1, c1, hA1, hRA1, hc1⟩ := pm_arr (hR.2.2 a1 _ ha1) (by decide)
  obtain ⟨-, k0, hk0, cm0, hkk0⟩ := hA0 m0 (fun j => .long (g0 j))
  obtain ⟨-, k1, hk1, cm1, hkk1⟩ := hA1 m1 (fun j => .long (g1 j))
  have nn : ∀ z : Int32, ¬ z < 0 → z.toInt = (z.toNatClampNeg : Int) := by
    intro z hz
    have hz0 : (0 : Int) ≤ z.toInt := by
      have := Int32.not_lt.mp hz
      simpa using Int32.le_iff_toInt_le.mp this
    show z.toInt = ((z.toInt.toNat : Nat) : Int)
    omega
  intro T hT X
  obtain ⟨vm', X', step⟩ := X.arraycopy cx.1 cx.2.2.2.2.1 (hts _ hl) (hts _ nat_copy) (hts _ st_copy) (hts _ ini_RJ10) (src := a0) (dst := a1) (cs := vp_cell c0 (m0, .inr (.inl g0))) (cd := vp_cell c1 (m1, .inr (.inl g1))) (srcPos := sp) (destPos := dp) (n := k) (by rw [hT]; exact hc0) (by rw [hT]; exact hc1)
    (fun _ h => by cases h) (fun _ h => by cases h) (fun h => by cases h) (fun h => by cases h) hk0 hk1 hkk0 hkk1 (by rfl) hs1 hs2 hs3
    (by rw [nn sp hs1, nn k hs3]; show ¬ _ > ((arrV c0 m0 (fun j => .long (g0 j))).slots.size : Int); rw [arrV_size]; omega)
    (by rw [nn dp hs2, nn k hs3]; show ¬ _ > ((arrV c1 m1 (fun j => .long (g1 j))).slots.size : Int); rw [arrV_size]; omega)
    (fun vm₁ _ i hi => by
      have e : (vp_cell c0 (m0, .inr (.inl g0))).slots.getD (sp.toNatClampNeg + i) .null = .long (g0 (sp.toNatClampNeg + i)) := by
        show (arrV c0 m0 (fun j => .long (g0 j))).slots.getD _ _ = _
        rw [Array.getD_eq_getD_getElem?, arrV_read _ _ (by omega)]
        rfl
      refine ⟨?_, ?_⟩
      · rw [e]
        rfl
      · rw [e]
        exact trivial)
    (g := F0 m pc lsA (.int k :: .int dp :: .ref a1 :: .int sp :: .ref a0 :: st)) rfl (by rw [cx.2.2.2.1]; exact hl'.1) (rest := st) rfl (by rw [cx.2.1]; exact hd) (by omega) (by show 2 * 0 + _ + (7 + 11) ≤ _; omega)
  have e5 : copied (vp_cell c0 (m0, .inr (.inl g0))) (vp_cell c1 (m1, .inr (.inl g1))) sp dp k = vp_cell c1 (m1, .inr (.inl (va_cpy g0 g1 sp.toNatClampNeg dp.toNatClampNeg k.toNatClampNeg))) := va_copied (fun z => .long z) c0 c1 g0 g1 hs4
  rw [e5] at X' step
  have hl2 : a1 < H.size := (Array.getElem?_eq_some_iff.mp hc1).1
  have hheap : ((T.setVm vm').setCell a1 (vp_cell c1 (m1, .inr (.inl (va_cpy g0 g1 sp.toNatClampNeg dp.toNatClampNeg k.toNatClampNeg))))).heap = H.setIfInBounds a1 (vp_cell c1 (m1, .inr (.inl (va_cpy g0 g1 sp.toNatClampNeg dp.toNatClampNeg k.toNatClampNeg)))) := by rw [← hT]; rfl
  have oq : ∀ q : Nat, q ≠ a1 → (H.setIfInBounds a1 (vp_cell c1 (m1, .inr (.inl (va_cpy g0 g1 sp.toNatClampNeg dp.toNatClampNeg k.toNatClampNeg)))))[q]? = H[q]? := fun q hq => by simp [Array.getElem?_setIfInBounds, Ne.symm hq]
  obtain ⟨t, b1, b2⟩ := kk.2 p l e R s m args below meth c _ _ lsA n0 w0 Q cx hl' (hR.set (pm_arr' (by decide) ⟨hBa1, c1, hA1, hRA1, (show (H.setIfInBounds a1 _)[a1]? = some _ by simp [Array.getElem?_setIfInBounds, hl2])⟩) (by simp) oq) (fun q hq => by
      rcases List.mem_append.mp hq with h | h
      · exact hlo q h
      · obtain ⟨z, -, hz⟩ := List.mem_map.mp h
        rw [← hz]
        exact hBa1) e1 e2 e3 e4 hq _ hheap X'
  exact ⟨t, step t b1, b2⟩
end PC
end
section
/-! THE CLAIM OUT OF ONE WALK OF THE LAW'S BODY. Your part is whole_start (and what it stands on); all else here is the same for every law, but numbers. -/
def R_law : String := "BuildEngineLaw"
def lw_P (b : Addr) (xs : List Int32) (args : Array Value) (s : State) : Prop := args = #[.ref b] ∧ s.IntsAt b xs ∧ xs.length ≤ 3072 ∧ (Jvm.Cond.and given_1 narrow_1).before args s = true
def lw_Q (_ : Array Value) (s : State) (o : Outcome) (t : State) : Prop := o = .returned (some (.int 1)) ∧ Framed s o t [] 600000 7302250
def lw_Z (below : List Frame) (a : Array Value) (s : State) : State → Prop := fun t => ∃ o, t.status = .running ∧ Ended t below o ∧ lw_Q a s o t
/-- the law's own end, with 1 on the stack, nothing written that was there before, its room as the claim has it -/
theorem lw_ret {p : Program} {l : Launch} {e : Env} {s : State} {m : MethodId} {below : List Frame} {meth : Method} {c : Code} {b : Nat} (hx : p.tables.exec = Jvm.exec) (hb : c.code = code) (hr : meth.sig.returnType = ret) (hlocks : meth.locks = false) {pc : Nat} {H : Heap} {ls : Array Slot} (hdg : decode code pc = .ok (.ireturn, 1)) : W p l e room_1 s m #[Value.ref b] below meth c H [] 600000 7302250 (lw_Z below #[Value.ref b] s) (F0 m pc ls [.int 1]) := by
  intro T hT X
  obtain ⟨fs, hret, hrun, hended, hW, hframe⟩ := X.leave (v := some (.int 1)) (hlocks := hlocks) (fun h => by rw [hr] at h; cases h)
  have hmeth' : T.vm.method? m = some meth := X.method'
  refine ⟨T.setFrames fs, ?_, .returned (some (.int 1)), hrun, hended, rfl, ⟨_, rfl⟩, hW, hframe⟩
  jvm_step X.here [X.here.top, hx, hb, hdg, hmeth', hr, ret, narrow_b1]
  (try refine ⟨rfl, ?_⟩); (try refine ⟨rfl, ?_⟩)
  first | (intro acts; rw [hret _ acts rfl rfl rfl]) | rw [hret _ _ rfl rfl rfl]
  exact Steps.refl _
/-- what holds at the law's entry: the machine, the code, the tables' words (any of lw_tbl by 'hts w (by decide +kernel)'), the script of L ints xs at the cell b, what the Statement gives of the start (any of its parts by flat_of_before) -/
def lw_At (p : Program) (s : State) (m : MethodId) (meth : Method) (c : Code) (b L : Nat) (xs : Nat → Int32) : Prop :=
  p.tables.exec = Jvm.exec ∧ c.code = code ∧ meth.sig.returnType = ret ∧ c.maxLocals = 4 ∧ s.vm.findClass R_law = some m.cls ∧ (∀ w ∈ lw_tbl, w.before #[Value.ref b] s = true) ∧ va_X b L xs s s.heap ∧ b < s.heap.size ∧ meth.locks = false ∧ (Jvm.Cond.and given_1 narrow_1).before #[Value.ref b] s = true
/-- the law's frame -/
abbrev mL_law : pm_M := (yL_law, code, 4, some .boolean)
def lw_f0 (b L : Nat) (xs : Nat → Int32) : Nat → Option va_E := fun a => if a = b then some (.inl (9, L, .inl xs)) else none
/-- THE LAW'S RUN, over the heap told as a function: what all the rest is for -/
theorem law_run (B : Nat) (D : va_G) (b L : Nat) (xs : Nat → Int32) (hL : L ≤ 3072) (hb : b < B) : ∃ h1 : pm_H, EX B D 100 mL_law 0 [some (.ref b), none, none, none] [] (B, 0, lw_f0 b L xs) (some (.int 1)) h1 ∧ h1.1 - B ≤ 600000 ∧ h1.2.1 ≤ 7302250 := sorry
theorem pm_D_of {s : State} {args : Array Value} (hts : ∀ w ∈ pm_gw, w.before args s = true) : ∃ D : va_G, va_K D pm_cl [] s := by
  have key : ∀ ci : Nat, ∃ x : ClassId × (Nat → Nat), ∀ q : vw_C, pm_cl[ci]? = some q → u_Kn s q.1 q.2.1 q.2.2 x.1 x.2 := by
    have one : ∀ (ci : Nat) (q : vw_C), pm_cl[ci]? = some q → Cond.instantiable q.1 q.2.2 ∈ pm_gw → ∃ x : ClassId × (Nat → Nat), ∀ q' : vw_C, pm_cl[ci]? = some q' → u_Kn s q'.1 q'.2.1 q'.2.2 x.1 x.2 := by
      intro ci q hq hi
      obtain ⟨cC, iS, h⟩ := u_known hts (pm_cl_ok hq).1 (hts _ hi)
      exact ⟨(cC, iS), fun q' hq' => by cases hq.symm.trans hq'; exact h⟩
    intro ci
    match ci with
    | 0 => exact one 0 _ rfl ins_RX0
    | 1 => exact one 1 _ rfl ins_RX1
    | 2 => exact one 2 _ rfl ins_RX2
    | 3 => exact one 3 _ rfl ins_RX3
    | 4 => exact one 4 _ rfl ins_RX4
    | 5 => exact one 5 _ rfl ins_RX5
    | 6 => exact one 6 _ rfl ins_RX6
    | 7 => exact one 7 _ rfl ins_RX7
    | _ + 8 => exact ⟨(0, fun _ => 0), fun q h => by cases h⟩
  exact ⟨(fun ci => (Classical.choose (key ci)).1, fun ci => (Classical.choose (key ci)).2), fun c q hq => Classical.choose_spec (key c) q hq, fun k q hk => by cases hk⟩
/-- YOUR PART: from the entry, for every script of at most 3072 ints, the law comes to its end with true ('hflags': the launch's flags, for a law that throws: no stack traces) -/
theorem whole_start {p : Program} {e : Env} {s : State} {m : MethodId} {below : List Frame} {meth : Method} {c : Code} (l : Launch) (hflags : l.flags = flags0) {b L : Nat} {xs : Nat → Int32} (hL : L ≤ 3072) (C0 : lw_At p s m meth c b L xs) : W p l e room_1 s m #[Value.ref b] below meth c s.heap [] 0 0 (lw_Z below #[Value.ref b] s) (entryFrame m ([Value.ref b] : List Value).toArray 4) := by
  obtain ⟨hx, hb, hr, hml, hown, hts, hX, hbl, hlocks, hgv⟩ := C0
  have hgw : ∀ w ∈ pm_gw, w.before #[Value.ref b] s = true := fun w hw => hts w (List.mem_filter.mp hw).1
  obtain ⟨D, hK⟩ := pm_D_of hgw
  obtain ⟨h1, hE, hc, hs⟩ := law_run s.heap.size D b L xs hL hbl
  have hl := pm_L.entry [Value.ref b] (n := 4) (by show 1 ≤ 4; omega)
  rw [lg_entry_eq]
  generalize (lg_sl [Value.ref b] ++ List.replicate (4 - (lg_sl [Value.ref b]).length) Slot.unset).toArray = lsA at hl ⊢
  have key := hE.2 p l e room_1 s m #[Value.ref b] below meth c s.heap [] lsA s.heap.size 0 (lw_Z below #[Value.ref b] s)
    ⟨hx, hb, hr, hml, hown, hgw, hlocks, fun h => absurd h (by decide), ⟨hK, fun own i x host hm => va_Nw.of rfl (hts _ hm), fun C hm => va_AO.of (hts _ hm)⟩, by decide, by decide⟩ hl ⟨rfl, Nat.le_refl _, ?_⟩ (fun q hq => by cases hq) (Nat.le_refl _) (Nat.le_refl _) hc (by show h1.2.1 - 0 ≤ 7302250; omega) ?_
  · rw [Nat.sub_self, Nat.sub_self] at key
    exact key
  · intro a e' he
    have he' : (if a = b then some (Sum.inl (9, L, Sum.inl xs)) else none) = some e' := he
    split at he'
    · next h =>
      subst h
      cases he'
      unfold pm_at
      dsimp only
      rw [if_pos rfl]
      exact ⟨hbl, L, xs, rfl, hX⟩
    · cases he'
  · intro H locs lsB pc hd hR1 hlo
    refine va_forget (fun q hq => hlo q hq) ?_
    refine W.widen (k := 600000) (n := 7302250) hc (by show h1.2.1 - 0 ≤ 7302250; omega) ?_
    exact lw_ret hx hb hr hlocks hd
-- ===== YOUR PART ENDS =====
set_option maxHeartbeats 4000000 in
theorem lw_walk (l : Launch) (hflags : l.flags = flags0) (b : Addr) (xs : List Int32) : MetFree l x (headSpec (Jvm.Cond.code x code maxLocals ret :: tables_1) room_1) (lw_P b xs) (fun _ _ _ _ _ => True) lw_Q := by
  refine MetFree.of_bodyS (code := code) (maxLocals := maxLocals) (ret := ret) (by decide) ?_ ?_
  · intro args s m h hn
    obtain ⟨meth, c, h1, h2, h3, h4, h5, h6, -, -⟩ := Cond.code_spec hn (atoms_spec (ws := Jvm.Cond.code x code maxLocals ret :: tables_1) h _ List.mem_cons_self)
    exact ⟨meth, c, h1, h2, h3, h4, h5, h6⟩
  · intro p e s m args below meth c s₁ B hml0 hP _
    obtain ⟨rfl, hx, hbd, hgv⟩ := hP
    obtain ⟨scr, harrAt, hlist, hof, hsmall⟩ := hx
    obtain ⟨hcb, hkn, -, -⟩ := State.arrayAt?_spec harrAt
    have hown : s.vm.findClass R_law = some m.cls := findClass_of_methodNamed B.named
    have hts0 : ∀ c ∈ (Jvm.Cond.code x code maxLocals ret :: tables_1), c.before #[Value.ref b] s = true := atoms_spec (ws := Jvm.Cond.code x code maxLocals ret :: tables_1) B.pre
    have hts : ∀ w ∈ lw_tbl, w.before #[Value.ref b] s = true := k2_hts_sels lw_privs (fun w hw => hts0 w (List.mem_cons_of_mem _ hw)) lw_privs_ok
    have hml : c.maxLocals = 4 := B.maxLocals_eq (hts0 _ List.mem_cons_self)
    have X₀ : Stand p l e room_1 s m #[Value.ref b] below meth c s₁ [] 0 0 := Stand.of_body B
    have hh0 : s₁.heap = s.heap := by rw [B.state]; rfl
    have hsz : scr.slots.size = xs.length := by rw [← Array.length_toList, hlist, List.length_map]
    have hval : ∀ j : Nat, j < xs.length → scr.slots[j]? = some (.int (xs.getD j 0)) := fun j hj => by
      rw [← Array.getElem?_toList, hlist]
      simp [hj]
    have hbl : b < s.heap.size := (Array.getElem?_eq_some_iff.mp hcb).1
    have hX : va_X b xs.length (fun j => xs.getD j 0) s s.heap := ⟨scr, hcb, hof, hkn, hsz, hval⟩
    have K : W p l e room_1 s m #[Value.ref b] below meth c s₁.heap [] 0 0 (lw_Z below #[Value.ref b] s) (entryFrame m ([Value.ref b] : List Value).toArray 4) := by
      rw [hh0]
      exact whole_start l hflags hbd ⟨B.exec, B.bytes, B.returns, hml, hown, hts, hX, hbl, B.notSynchronized, hgv⟩
    obtain ⟨t, a1, o, b1, b2, b3⟩ := K s₁ rfl X₀
    exact ⟨t, o, a1, b1, b2, b3⟩
theorem lw_pre_spec {args : Array Value} {s : State} (h : (Jvm.Cond.and given_1 narrow_1).before args s = true) (hr : rest_1_c.before args s = true) : ∃ (b : Addr) (xs : List Int32), lw_P b xs args s := by
  have hs := flat_of_before _ h
  have hq := flat_of_before _ hr
  have hc : (Cond.count 1).before args s = true := hs _ (by decide +kernel)
  have harr : (Cond.arrayOf (.arg 0) .int).before args s = true := hs _ (by decide +kernel)
  have hle : (Cond.le (.length (.arg 0)) (.int 3072)).before args s = true := hs _ (by decide +kernel)
  have hlen : (Cond.isInt (.length (.arg 0))).before args s = true := hq _ (by decide +kernel)
  have hall : (Cond.all (.arg 0) (.isInt (.elem (.arg 0) (.index 0)))).before args s = true := hq _ (by decide +kernel)
  obtain ⟨b, xs, hb, hx⟩ := State.ints_of_pre rfl harr hlen hall
  have hsm : xs.length < 2 ^ 31 := hx.choose_spec.2.2.2
  have hev : (Term.length (.arg 0)).eval args s none [] s = some (.int xs.length.toInt32) := hx.length_eval hb
  have hv := Cond.le_ints hev (show (Term.int 3072).eval args s none [] s = some (.int 3072) from rfl)
  have hd : xs.length.toInt32 ≤ 3072 := by
    simpa [Cond.before, Cond.holds, hv] using hle
  have hN : xs.length ≤ 3072 := (Int32.ofNat_le_ofNat hsm (by decide)).mp (show Int32.ofNat xs.length ≤ Int32.ofNat 3072 from hd)
  exact ⟨b, xs, Cond.one_arg hc (show args[0]? = some (.ref b) from hb), hx, hN, h⟩
theorem lw_comes (l : Launch) (hflags : l.flags = flags0) : Comes l x (Jvm.Cond.code x code maxLocals ret :: tables_1) room_1 (fun tb e args s => Calls_1 tb e args s ∧ rest_1 tb e args s ∧ Pre_1 tb e args s)
    (fun _ _ args s o t => lw_Q args s o t) := by
  intro p e ha hc hk s m args below hf hfit hheap happ hpre
  obtain ⟨b, xs, hP⟩ := lw_pre_spec hpre.2.2 hpre.2.1
  obtain ⟨k, o, h1, h2, h3, hQ⟩ := lw_walk l hflags b xs p e ha hc hk s m args below hf ((Spec.applies_iff_loose hf).mp happ).1 hP trivial
  exact ⟨k, o, h1, h2, h3, hQ⟩
theorem lw_frame {s t : State} {o : Outcome} {args : Array Value} (h : Framed s o t [] 600000 7302250) :
    Framed s o t (fieldLocs frame_1_writes args s ++ arrayLocs frame_1_arrays args s ++ staticLocs frame_1_statics s) 600000 7302250 := h
theorem lw_limb (L : Cond) (hL : ∀ (args : Array Value) (s t : State), L.after args s (.returned (some (.int 1))) t = true) :
    ArmFor flags0 classFile x code maxLocals ret World_1 tables_1 room_1 Calls_1 rest_1 Pre_1
      (fun tb e a s o t => postC L tb e a s o t ∧ Framed s o t (fieldLocs frame_1_writes a s ++ arrayLocs frame_1_arrays a s ++ staticLocs frame_1_statics s) 600000 7302250) := by
  intro l hflags _ _ p e ha hc hk s m args below hf hfit hheap happ hpre
  obtain ⟨k, o, h1, h2, h3, rfl, hF⟩ := lw_comes l hflags p e ha hc hk s m args below hf hfit hheap happ hpre
  exact ⟨k, _, h1, h2, h3, hL args s _, lw_frame hF⟩
theorem i_vc : Claimed_1_1 ∧ Claimed_1_2 := ⟨lw_limb limb_1_1 (fun args s t => by simp [limb_1_1, Cond.after, Cond.holds, Cond.value]), lw_limb limb_1_2 (fun args s t => Cond.after_iff.mpr (by
  first | (rw [show limb_1_2 = Cond.eq .result (.int 1) from rfl, Cond.eq_ints (x := 1) (y := 1) rfl rfl]; simp; done) | (simp [limb_1_2, Cond.value, Term.eval]; done)))⟩
end
