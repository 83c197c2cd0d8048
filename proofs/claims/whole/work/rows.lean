section
-- ===== PART A: goes FIRST, ahead of the names: the tables' words, and 'selects' of the private methods out of them =====
/-- a private method of a class that the tables say can be made, by its rows of tables_1 -/
def lw_okq (q : MethodName × Nat) : Prop := (q.1.cls ≠ "java/lang/invoke/MethodHandle" ∧ q.1.cls ≠ "java/lang/invoke/VarHandle") ∧ Cond.instantiable q.1.cls q.2 ∈ tables_1 ∧ Cond.privateMethod q.1 ∈ tables_1 ∧ Cond.instanceMethod q.1 ∈ tables_1
theorem lw_p0 : lw_okq (⟨"BuildEngine$Tape", "tellsNoKey", "(II)Z"⟩, 2) := ⟨⟨by decide +kernel, by decide +kernel⟩, List.mem_of_getElem? (i := 163) (by decide +kernel), List.mem_of_getElem? (i := 297) (by decide +kernel), List.mem_of_getElem? (i := 298) (by decide +kernel)⟩
theorem lw_p1 : lw_okq (⟨"BuildEngine$Target", "copyRule", "(LBuildEngine$Target;)V"⟩, 7) := ⟨⟨by decide +kernel, by decide +kernel⟩, List.mem_of_getElem? (i := 36) (by decide +kernel), List.mem_of_getElem? (i := 338) (by decide +kernel), List.mem_of_getElem? (i := 339) (by decide +kernel)⟩
theorem lw_p2 : lw_okq (⟨"BuildEngine$Builder", "buildTarget", "(II)V"⟩, 11) := ⟨⟨by decide +kernel, by decide +kernel⟩, List.mem_of_getElem? (i := 21) (by decide +kernel), List.mem_of_getElem? (i := 381) (by decide +kernel), List.mem_of_getElem? (i := 382) (by decide +kernel)⟩
theorem lw_p3 : lw_okq (⟨"BuildEngine$Builder", "isStillSame", "(LBuildEngine$Target;I)Z"⟩, 11) := ⟨⟨by decide +kernel, by decide +kernel⟩, List.mem_of_getElem? (i := 21) (by decide +kernel), List.mem_of_getElem? (i := 391) (by decide +kernel), List.mem_of_getElem? (i := 392) (by decide +kernel)⟩
theorem lw_p4 : lw_okq (⟨"BuildEngine$Builder", "runToEnd", "(ILBuildEngine$Target;I)V"⟩, 11) := ⟨⟨by decide +kernel, by decide +kernel⟩, List.mem_of_getElem? (i := 21) (by decide +kernel), List.mem_of_getElem? (i := 416) (by decide +kernel), List.mem_of_getElem? (i := 417) (by decide +kernel)⟩
theorem lw_p5 : lw_okq (⟨"BuildEngine$Builder", "runOnce", "(ILBuildEngine$Target;)LBuildEngine$Result;"⟩, 11) := ⟨⟨by decide +kernel, by decide +kernel⟩, List.mem_of_getElem? (i := 21) (by decide +kernel), List.mem_of_getElem? (i := 420) (by decide +kernel), List.mem_of_getElem? (i := 421) (by decide +kernel)⟩
theorem lw_p6 : lw_okq (⟨"BuildEngine$Builder", "resultIfDone", "(I)LBuildEngine$Result;"⟩, 11) := ⟨⟨by decide +kernel, by decide +kernel⟩, List.mem_of_getElem? (i := 21) (by decide +kernel), List.mem_of_getElem? (i := 432) (by decide +kernel), List.mem_of_getElem? (i := 433) (by decide +kernel)⟩
theorem lw_p7 : lw_okq (⟨"BuildEngine$Builder", "noteDone", "(I)V"⟩, 11) := ⟨⟨by decide +kernel, by decide +kernel⟩, List.mem_of_getElem? (i := 21) (by decide +kernel), List.mem_of_getElem? (i := 465) (by decide +kernel), List.mem_of_getElem? (i := 466) (by decide +kernel)⟩
theorem lw_p8 : lw_okq (⟨"BuildEngine$World", "deepenAll", "()Z"⟩, 4) := ⟨⟨by decide +kernel, by decide +kernel⟩, List.mem_of_getElem? (i := 27) (by decide +kernel), List.mem_of_getElem? (i := 582) (by decide +kernel), List.mem_of_getElem? (i := 583) (by decide +kernel)⟩
theorem lw_p9 : lw_okq (⟨"BuildEngine$World", "depthByTrace", "(LBuildEngine$Target;)I"⟩, 4) := ⟨⟨by decide +kernel, by decide +kernel⟩, List.mem_of_getElem? (i := 27) (by decide +kernel), List.mem_of_getElem? (i := 586) (by decide +kernel), List.mem_of_getElem? (i := 587) (by decide +kernel)⟩
theorem lw_p10 : lw_okq (⟨"BuildEngine$World", "hasSameBelow", "(I)Z"⟩, 4) := ⟨⟨by decide +kernel, by decide +kernel⟩, List.mem_of_getElem? (i := 27) (by decide +kernel), List.mem_of_getElem? (i := 610) (by decide +kernel), List.mem_of_getElem? (i := 611) (by decide +kernel)⟩
theorem lw_p11 : lw_okq (⟨"BuildEngine$World", "isUpToDate", "(LBuildEngine$Target;)Z"⟩, 4) := ⟨⟨by decide +kernel, by decide +kernel⟩, List.mem_of_getElem? (i := 27) (by decide +kernel), List.mem_of_getElem? (i := 623) (by decide +kernel), List.mem_of_getElem? (i := 624) (by decide +kernel)⟩
theorem lw_p12 : lw_okq (⟨"BuildEngine", "rowOf", "(I)LBuildEngine$Row;"⟩, 7) := ⟨⟨by decide +kernel, by decide +kernel⟩, List.mem_of_getElem? (i := 13) (by decide +kernel), List.mem_of_getElem? (i := 658) (by decide +kernel), List.mem_of_getElem? (i := 659) (by decide +kernel)⟩
theorem lw_p13 : lw_okq (⟨"BuildEngineModel", "fault", "()I"⟩, 29) := ⟨⟨by decide +kernel, by decide +kernel⟩, List.mem_of_getElem? (i := 720) (by decide +kernel), List.mem_of_getElem? (i := 857) (by decide +kernel), List.mem_of_getElem? (i := 858) (by decide +kernel)⟩
theorem lw_p14 : lw_okq (⟨"BuildEngineModel", "isFigure", "(I)Z"⟩, 29) := ⟨⟨by decide +kernel, by decide +kernel⟩, List.mem_of_getElem? (i := 720) (by decide +kernel), List.mem_of_getElem? (i := 867) (by decide +kernel), List.mem_of_getElem? (i := 868) (by decide +kernel)⟩
theorem lw_p15 : lw_okq (⟨"BuildEngineModel", "traceAt", "(I)I"⟩, 29) := ⟨⟨by decide +kernel, by decide +kernel⟩, List.mem_of_getElem? (i := 720) (by decide +kernel), List.mem_of_getElem? (i := 873) (by decide +kernel), List.mem_of_getElem? (i := 874) (by decide +kernel)⟩
def lw_privs_1 : List (MethodName × Nat) := [(⟨"BuildEngine$Tape", "tellsNoKey", "(II)Z"⟩, 2), (⟨"BuildEngine$Target", "copyRule", "(LBuildEngine$Target;)V"⟩, 7), (⟨"BuildEngine$Builder", "buildTarget", "(II)V"⟩, 11), (⟨"BuildEngine$Builder", "isStillSame", "(LBuildEngine$Target;I)Z"⟩, 11), (⟨"BuildEngine$Builder", "runToEnd", "(ILBuildEngine$Target;I)V"⟩, 11), (⟨"BuildEngine$Builder", "runOnce", "(ILBuildEngine$Target;)LBuildEngine$Result;"⟩, 11), (⟨"BuildEngine$Builder", "resultIfDone", "(I)LBuildEngine$Result;"⟩, 11), (⟨"BuildEngine$Builder", "noteDone", "(I)V"⟩, 11), (⟨"BuildEngine$World", "deepenAll", "()Z"⟩, 4), (⟨"BuildEngine$World", "depthByTrace", "(LBuildEngine$Target;)I"⟩, 4), (⟨"BuildEngine$World", "hasSameBelow", "(I)Z"⟩, 4), (⟨"BuildEngine$World", "isUpToDate", "(LBuildEngine$Target;)Z"⟩, 4), (⟨"BuildEngine", "rowOf", "(I)LBuildEngine$Row;"⟩, 7), (⟨"BuildEngineModel", "fault", "()I"⟩, 29), (⟨"BuildEngineModel", "isFigure", "(I)Z"⟩, 29), (⟨"BuildEngineModel", "traceAt", "(I)I"⟩, 29)]
theorem lw_r1 : ∀ q ∈ lw_privs_1, lw_okq q := List.forall_mem_cons.mpr ⟨lw_p0, List.forall_mem_cons.mpr ⟨lw_p1, List.forall_mem_cons.mpr ⟨lw_p2, List.forall_mem_cons.mpr ⟨lw_p3, List.forall_mem_cons.mpr ⟨lw_p4, List.forall_mem_cons.mpr ⟨lw_p5, List.forall_mem_cons.mpr ⟨lw_p6, List.forall_mem_cons.mpr ⟨lw_p7, List.forall_mem_cons.mpr ⟨lw_p8, List.forall_mem_cons.mpr ⟨lw_p9, List.forall_mem_cons.mpr ⟨lw_p10, List.forall_mem_cons.mpr ⟨lw_p11, List.forall_mem_cons.mpr ⟨lw_p12, List.forall_mem_cons.mpr ⟨lw_p13, List.forall_mem_cons.mpr ⟨lw_p14, List.forall_mem_cons.mpr ⟨lw_p15, fun _ h => absurd h List.not_mem_nil⟩⟩⟩⟩⟩⟩⟩⟩⟩⟩⟩⟩⟩⟩⟩⟩
theorem lw_p16 : lw_okq (⟨"BuildEngineModel", "ruled", "(II)I"⟩, 29) := ⟨⟨by decide +kernel, by decide +kernel⟩, List.mem_of_getElem? (i := 720) (by decide +kernel), List.mem_of_getElem? (i := 881) (by decide +kernel), List.mem_of_getElem? (i := 882) (by decide +kernel)⟩
theorem lw_p17 : lw_okq (⟨"BuildEngineModel", "built", "(IZ)I"⟩, 29) := ⟨⟨by decide +kernel, by decide +kernel⟩, List.mem_of_getElem? (i := 720) (by decide +kernel), List.mem_of_getElem? (i := 897) (by decide +kernel), List.mem_of_getElem? (i := 898) (by decide +kernel)⟩
theorem lw_p18 : lw_okq (⟨"BuildEngineModel", "builds", "(I)V"⟩, 29) := ⟨⟨by decide +kernel, by decide +kernel⟩, List.mem_of_getElem? (i := 720) (by decide +kernel), List.mem_of_getElem? (i := 901) (by decide +kernel), List.mem_of_getElem? (i := 902) (by decide +kernel)⟩
theorem lw_p19 : lw_okq (⟨"BuildEngineModel", "fails", "(IIII)I"⟩, 29) := ⟨⟨by decide +kernel, by decide +kernel⟩, List.mem_of_getElem? (i := 720) (by decide +kernel), List.mem_of_getElem? (i := 905) (by decide +kernel), List.mem_of_getElem? (i := 906) (by decide +kernel)⟩
theorem lw_p20 : lw_okq (⟨"BuildEngineModel", "traced", "(I)I"⟩, 29) := ⟨⟨by decide +kernel, by decide +kernel⟩, List.mem_of_getElem? (i := 720) (by decide +kernel), List.mem_of_getElem? (i := 909) (by decide +kernel), List.mem_of_getElem? (i := 910) (by decide +kernel)⟩
theorem lw_p21 : lw_okq (⟨"BuildEngineModel", "isAsSeen", "(I)Z"⟩, 29) := ⟨⟨by decide +kernel, by decide +kernel⟩, List.mem_of_getElem? (i := 720) (by decide +kernel), List.mem_of_getElem? (i := 913) (by decide +kernel), List.mem_of_getElem? (i := 914) (by decide +kernel)⟩
theorem lw_p22 : lw_okq (⟨"BuildEngineModel", "isDone", "(I)Z"⟩, 29) := ⟨⟨by decide +kernel, by decide +kernel⟩, List.mem_of_getElem? (i := 720) (by decide +kernel), List.mem_of_getElem? (i := 917) (by decide +kernel), List.mem_of_getElem? (i := 918) (by decide +kernel)⟩
theorem lw_p23 : lw_okq (⟨"BuildEngineModel", "has", "(I)I"⟩, 29) := ⟨⟨by decide +kernel, by decide +kernel⟩, List.mem_of_getElem? (i := 720) (by decide +kernel), List.mem_of_getElem? (i := 921) (by decide +kernel), List.mem_of_getElem? (i := 922) (by decide +kernel)⟩
theorem lw_p24 : lw_okq (⟨"BuildEngineModel", "runs", "(I)I"⟩, 29) := ⟨⟨by decide +kernel, by decide +kernel⟩, List.mem_of_getElem? (i := 720) (by decide +kernel), List.mem_of_getElem? (i := 925) (by decide +kernel), List.mem_of_getElem? (i := 926) (by decide +kernel)⟩
theorem lw_p25 : lw_okq (⟨"BuildEngineModel", "goes", "(I)I"⟩, 29) := ⟨⟨by decide +kernel, by decide +kernel⟩, List.mem_of_getElem? (i := 720) (by decide +kernel), List.mem_of_getElem? (i := 929) (by decide +kernel), List.mem_of_getElem? (i := 930) (by decide +kernel)⟩
theorem lw_p26 : lw_okq (⟨"BuildEngineModel", "notes", "(II)V"⟩, 29) := ⟨⟨by decide +kernel, by decide +kernel⟩, List.mem_of_getElem? (i := 720) (by decide +kernel), List.mem_of_getElem? (i := 933) (by decide +kernel), List.mem_of_getElem? (i := 934) (by decide +kernel)⟩
theorem lw_p27 : lw_okq (⟨"BuildEngineModel", "isOfRing", "(I)Z"⟩, 29) := ⟨⟨by decide +kernel, by decide +kernel⟩, List.mem_of_getElem? (i := 720) (by decide +kernel), List.mem_of_getElem? (i := 940) (by decide +kernel), List.mem_of_getElem? (i := 941) (by decide +kernel)⟩
theorem lw_p28 : lw_okq (⟨"BuildEngineModel", "finishes", "(I)V"⟩, 29) := ⟨⟨by decide +kernel, by decide +kernel⟩, List.mem_of_getElem? (i := 720) (by decide +kernel), List.mem_of_getElem? (i := 944) (by decide +kernel), List.mem_of_getElem? (i := 945) (by decide +kernel)⟩
theorem lw_p29 : lw_okq (⟨"BuildEngineModel", "manyDone", "()I"⟩, 29) := ⟨⟨by decide +kernel, by decide +kernel⟩, List.mem_of_getElem? (i := 720) (by decide +kernel), List.mem_of_getElem? (i := 948) (by decide +kernel), List.mem_of_getElem? (i := 949) (by decide +kernel)⟩
theorem lw_p30 : lw_okq (⟨"BuildEngineModel", "toldOf", "(I)I"⟩, 29) := ⟨⟨by decide +kernel, by decide +kernel⟩, List.mem_of_getElem? (i := 720) (by decide +kernel), List.mem_of_getElem? (i := 976) (by decide +kernel), List.mem_of_getElem? (i := 977) (by decide +kernel)⟩
theorem lw_p31 : lw_okq (⟨"BuildEngineModel", "causeOf", "(II)I"⟩, 29) := ⟨⟨by decide +kernel, by decide +kernel⟩, List.mem_of_getElem? (i := 720) (by decide +kernel), List.mem_of_getElem? (i := 986) (by decide +kernel), List.mem_of_getElem? (i := 987) (by decide +kernel)⟩
def lw_privs_2 : List (MethodName × Nat) := [(⟨"BuildEngineModel", "ruled", "(II)I"⟩, 29), (⟨"BuildEngineModel", "built", "(IZ)I"⟩, 29), (⟨"BuildEngineModel", "builds", "(I)V"⟩, 29), (⟨"BuildEngineModel", "fails", "(IIII)I"⟩, 29), (⟨"BuildEngineModel", "traced", "(I)I"⟩, 29), (⟨"BuildEngineModel", "isAsSeen", "(I)Z"⟩, 29), (⟨"BuildEngineModel", "isDone", "(I)Z"⟩, 29), (⟨"BuildEngineModel", "has", "(I)I"⟩, 29), (⟨"BuildEngineModel", "runs", "(I)I"⟩, 29), (⟨"BuildEngineModel", "goes", "(I)I"⟩, 29), (⟨"BuildEngineModel", "notes", "(II)V"⟩, 29), (⟨"BuildEngineModel", "isOfRing", "(I)Z"⟩, 29), (⟨"BuildEngineModel", "finishes", "(I)V"⟩, 29), (⟨"BuildEngineModel", "manyDone", "()I"⟩, 29), (⟨"BuildEngineModel", "toldOf", "(I)I"⟩, 29), (⟨"BuildEngineModel", "causeOf", "(II)I"⟩, 29)]
theorem lw_r2 : ∀ q ∈ lw_privs_2, lw_okq q := List.forall_mem_cons.mpr ⟨lw_p16, List.forall_mem_cons.mpr ⟨lw_p17, List.forall_mem_cons.mpr ⟨lw_p18, List.forall_mem_cons.mpr ⟨lw_p19, List.forall_mem_cons.mpr ⟨lw_p20, List.forall_mem_cons.mpr ⟨lw_p21, List.forall_mem_cons.mpr ⟨lw_p22, List.forall_mem_cons.mpr ⟨lw_p23, List.forall_mem_cons.mpr ⟨lw_p24, List.forall_mem_cons.mpr ⟨lw_p25, List.forall_mem_cons.mpr ⟨lw_p26, List.forall_mem_cons.mpr ⟨lw_p27, List.forall_mem_cons.mpr ⟨lw_p28, List.forall_mem_cons.mpr ⟨lw_p29, List.forall_mem_cons.mpr ⟨lw_p30, List.forall_mem_cons.mpr ⟨lw_p31, fun _ h => absurd h List.not_mem_nil⟩⟩⟩⟩⟩⟩⟩⟩⟩⟩⟩⟩⟩⟩⟩⟩
theorem lw_p32 : lw_okq (⟨"BuildEngineModel", "amiss", "(II)I"⟩, 29) := ⟨⟨by decide +kernel, by decide +kernel⟩, List.mem_of_getElem? (i := 720) (by decide +kernel), List.mem_of_getElem? (i := 1006) (by decide +kernel), List.mem_of_getElem? (i := 1007) (by decide +kernel)⟩
theorem lw_p33 : lw_okq (⟨"BuildEngineModel", "isTraced", "(II)Z"⟩, 29) := ⟨⟨by decide +kernel, by decide +kernel⟩, List.mem_of_getElem? (i := 720) (by decide +kernel), List.mem_of_getElem? (i := 1018) (by decide +kernel), List.mem_of_getElem? (i := 1019) (by decide +kernel)⟩
theorem lw_p34 : lw_okq (⟨"BuildEngineModel", "having", "(I)I"⟩, 29) := ⟨⟨by decide +kernel, by decide +kernel⟩, List.mem_of_getElem? (i := 720) (by decide +kernel), List.mem_of_getElem? (i := 1047) (by decide +kernel), List.mem_of_getElem? (i := 1048) (by decide +kernel)⟩
def lw_privs_3 : List (MethodName × Nat) := [(⟨"BuildEngineModel", "amiss", "(II)I"⟩, 29), (⟨"BuildEngineModel", "isTraced", "(II)Z"⟩, 29), (⟨"BuildEngineModel", "having", "(I)I"⟩, 29)]
theorem lw_r3 : ∀ q ∈ lw_privs_3, lw_okq q := List.forall_mem_cons.mpr ⟨lw_p32, List.forall_mem_cons.mpr ⟨lw_p33, List.forall_mem_cons.mpr ⟨lw_p34, fun _ h => absurd h List.not_mem_nil⟩⟩⟩
def lw_privs : List (MethodName × Nat) := lw_privs_1 ++ (lw_privs_2 ++ (lw_privs_3))
def lw_tbl : List Cond := k2_sels lw_privs ++ tables_1
theorem lw_privs_ok : ∀ q ∈ lw_privs, lw_okq q := by
  show ∀ q ∈ lw_privs_1 ++ (lw_privs_2 ++ (lw_privs_3)), lw_okq q
  exact List.forall_mem_append.mpr ⟨lw_r1, List.forall_mem_append.mpr ⟨lw_r2, lw_r3⟩⟩
end
section
def RX0 : String := "BuildEngine$Builder"
def TX0 : u_T := fun k => match k with
  | 0 => ("BuildEngine$Builder", "world", "LBuildEngine$World;", true)
  | 1 => ("BuildEngine$Builder", "doneKeys", "[I", true)
  | 2 => ("BuildEngine$Builder", "doneCount", "I", false)
  | 3 => ("BuildEngine$Builder", "done", "I", false)
  | 4 => ("BuildEngine$Builder", "open", "I", false)
  | 5 => ("BuildEngine$Builder", "stoppedBy", "I", false)
  | 6 => ("BuildEngine$Builder", "starts", "I", false)
  | 7 => ("BuildEngine$Builder", "putOffs", "I", false)
  | 8 => ("BuildEngine$Builder", "spared", "I", false)
  | 9 => ("BuildEngine$Builder", "cuts", "I", false)
  | _ => ("BuildEngine$Builder", "wanted", "I", false)
def tyX0 : Nat → FieldType := fun k => match k with
  | 0 => .object "BuildEngine$World"
  | 1 => .array .int
  | 2 => .int
  | 3 => .int
  | 4 => .int
  | 5 => .int
  | 6 => .int
  | 7 => .int
  | 8 => .int
  | 9 => .int
  | _ => .int
abbrev wsX00 : List Cond := u_ws RX0 TX0 11
theorem nmX0 : ∀ a, a < 11 → ∀ b, b < 11 → a ≠ b → (TX0 a).2.1 ≠ (TX0 b).2.1 := by decide +kernel
theorem tyX0_ok : ∀ k, k < 11 → parseFieldDescriptor (TX0 k).2.2.1 = some (tyX0 k) := by decide +kernel
abbrev cX0_init : ByteArray := prog_2_method_1_code
def yX0_init : MethodName := ⟨RX0, "<init>", "()V"⟩
abbrev cX0_forgetBuild : ByteArray := prog_2_method_2_code
def yX0_forgetBuild : MethodName := ⟨RX0, "forgetBuild", "()V"⟩
abbrev cX0_doneAt : ByteArray := prog_2_method_3_code
def yX0_doneAt : MethodName := ⟨RX0, "doneAt", "(I)I"⟩
abbrev cX0_startsFor : ByteArray := prog_2_method_4_code
def yX0_startsFor : MethodName := ⟨RX0, "startsFor", "(I)I"⟩
abbrev cX0_buildEach : ByteArray := prog_2_method_5_code
def yX0_buildEach : MethodName := ⟨RX0, "buildEach", "(IZ)I"⟩
abbrev cX0_buildTarget : ByteArray := prog_2_method_6_code
def yX0_buildTarget : MethodName := ⟨RX0, "buildTarget", "(II)V"⟩
abbrev cX0_noteDone : ByteArray := prog_2_method_7_code
def yX0_noteDone : MethodName := ⟨RX0, "noteDone", "(I)V"⟩
abbrev cX0_isStillSame : ByteArray := prog_2_method_8_code
def yX0_isStillSame : MethodName := ⟨RX0, "isStillSame", "(LBuildEngine$Target;I)Z"⟩
abbrev cX0_runToEnd : ByteArray := prog_2_method_9_code
def yX0_runToEnd : MethodName := ⟨RX0, "runToEnd", "(ILBuildEngine$Target;I)V"⟩
abbrev cX0_runOnce : ByteArray := prog_2_method_10_code
def yX0_runOnce : MethodName := ⟨RX0, "runOnce", "(ILBuildEngine$Target;)LBuildEngine$Result;"⟩
abbrev cX0_resultIfDone : ByteArray := prog_2_method_11_code
def yX0_resultIfDone : MethodName := ⟨RX0, "resultIfDone", "(I)LBuildEngine$Result;"⟩
abbrev cX0_worked : ByteArray := prog_2_method_12_code
def yX0_worked : MethodName := ⟨RX0, "worked", "(IJJ)J"⟩
abbrev cX0_failingSort : ByteArray := prog_2_method_13_code
def yX0_failingSort : MethodName := ⟨RX0, "failingSort", "(IJJJ)I"⟩
abbrev cX0_stepsToPass : ByteArray := prog_2_method_14_code
def yX0_stepsToPass : MethodName := ⟨RX0, "stepsToPass", "(IJI)I"⟩
abbrev cX0_bitOf : ByteArray := prog_2_method_15_code
def yX0_bitOf : MethodName := ⟨RX0, "bitOf", "(I)I"⟩
abbrev cX0_isIn : ByteArray := prog_2_method_16_code
def yX0_isIn : MethodName := ⟨RX0, "isIn", "(II)Z"⟩
def RX1 : String := "BuildEngine$Result"
def TX1 : u_T := fun k => match k with
  | 0 => ("BuildEngine$Result", "content", "I", true)
  | 1 => ("BuildEngine$Result", "key", "I", true)
  | 2 => ("BuildEngine$Result", "sort", "I", true)
  | 3 => ("BuildEngine$Result", "step", "I", true)
  | _ => ("BuildEngine$Result", "cause", "LBuildEngine$Result;", true)
def tyX1 : Nat → FieldType := fun k => match k with
  | 0 => .int
  | 1 => .int
  | 2 => .int
  | 3 => .int
  | _ => .object "BuildEngine$Result"
abbrev wsX10 : List Cond := u_ws RX1 TX1 5
theorem nmX1 : ∀ a, a < 5 → ∀ b, b < 5 → a ≠ b → (TX1 a).2.1 ≠ (TX1 b).2.1 := by decide +kernel
theorem tyX1_ok : ∀ k, k < 5 → parseFieldDescriptor (TX1 k).2.2.1 = some (tyX1 k) := by decide +kernel
abbrev cX1_init : ByteArray := prog_3_method_1_code
def yX1_init : MethodName := ⟨RX1, "<init>", "(IIIILBuildEngine$Result;)V"⟩
abbrev cX1_ofContent : ByteArray := prog_3_method_2_code
def yX1_ofContent : MethodName := ⟨RX1, "ofContent", "(I)LBuildEngine$Result;"⟩
abbrev cX1_ofFailure : ByteArray := prog_3_method_3_code
def yX1_ofFailure : MethodName := ⟨RX1, "ofFailure", "(IIILBuildEngine$Result;)LBuildEngine$Result;"⟩
abbrev cX1_isFailure : ByteArray := prog_3_method_4_code
def yX1_isFailure : MethodName := ⟨RX1, "isFailure", "()Z"⟩
abbrev cX1_asTold : ByteArray := prog_3_method_5_code
def yX1_asTold : MethodName := ⟨RX1, "asTold", "()I"⟩
abbrev cX1_causeCount : ByteArray := prog_3_method_6_code
def yX1_causeCount : MethodName := ⟨RX1, "causeCount", "()I"⟩
abbrev cX1_rootKey : ByteArray := prog_3_method_7_code
def yX1_rootKey : MethodName := ⟨RX1, "rootKey", "()I"⟩
abbrev cX1_isOrComesOfSort : ByteArray := prog_3_method_8_code
def yX1_isOrComesOfSort : MethodName := ⟨RX1, "isOrComesOfSort", "(I)Z"⟩
abbrev cX1_isOrComesOfKey : ByteArray := prog_3_method_9_code
def yX1_isOrComesOfKey : MethodName := ⟨RX1, "isOrComesOfKey", "(I)Z"⟩
abbrev cX1_areSame : ByteArray := prog_3_method_10_code
def yX1_areSame : MethodName := ⟨RX1, "areSame", "(LBuildEngine$Result;LBuildEngine$Result;)Z"⟩
def RX2 : String := "BuildEngine$Row"
def TX2 : u_T := fun k => match k with
  | 0 => ("BuildEngine$Row", "held", "Z", false)
  | 1 => ("BuildEngine$Row", "places", "[J", true)
  | _ => ("BuildEngine$Row", "size", "I", false)
def tyX2 : Nat → FieldType := fun k => match k with
  | 0 => .boolean
  | 1 => .array .long
  | _ => .int
abbrev wsX20 : List Cond := u_ws RX2 TX2 3
theorem nmX2 : ∀ a, a < 3 → ∀ b, b < 3 → a ≠ b → (TX2 a).2.1 ≠ (TX2 b).2.1 := by decide +kernel
theorem tyX2_ok : ∀ k, k < 3 → parseFieldDescriptor (TX2 k).2.2.1 = some (tyX2 k) := by decide +kernel
abbrev cX2_init : ByteArray := prog_4_method_1_code
def yX2_init : MethodName := ⟨RX2, "<init>", "()V"⟩
abbrev cX2_hold : ByteArray := prog_4_method_2_code
def yX2_hold : MethodName := ⟨RX2, "hold", "(I)V"⟩
abbrev cX2_hasPlace : ByteArray := prog_4_method_3_code
def yX2_hasPlace : MethodName := ⟨RX2, "hasPlace", "(I)Z"⟩
abbrev cX2_hasSpan : ByteArray := prog_4_method_4_code
def yX2_hasSpan : MethodName := ⟨RX2, "hasSpan", "(II)Z"⟩
abbrev cX2_read : ByteArray := prog_4_method_5_code
def yX2_read : MethodName := ⟨RX2, "read", "(I)J"⟩
abbrev cX2_write : ByteArray := prog_4_method_6_code
def yX2_write : MethodName := ⟨RX2, "write", "(IJ)Z"⟩
def RX3 : String := "BuildEngine$Tape"
def TX3 : u_T := fun k => match k with
  | 0 => ("BuildEngine$Tape", "letters", "[I", true)
  | _ => ("BuildEngine$Tape", "length", "I", false)
def tyX3 : Nat → FieldType := fun k => match k with
  | 0 => .array .int
  | _ => .int
abbrev wsX30 : List Cond := u_ws RX3 TX3 2
theorem nmX3 : ∀ a, a < 2 → ∀ b, b < 2 → a ≠ b → (TX3 a).2.1 ≠ (TX3 b).2.1 := by decide +kernel
theorem tyX3_ok : ∀ k, k < 2 → parseFieldDescriptor (TX3 k).2.2.1 = some (tyX3 k) := by decide +kernel
abbrev cX3_init : ByteArray := prog_5_method_1_code
def yX3_init : MethodName := ⟨RX3, "<init>", "()V"⟩
abbrev cX3_append : ByteArray := prog_5_method_2_code
def yX3_append : MethodName := ⟨RX3, "append", "(I)Z"⟩
abbrev cX3_empty : ByteArray := prog_5_method_3_code
def yX3_empty : MethodName := ⟨RX3, "empty", "()I"⟩
abbrev cX3_letterAt : ByteArray := prog_5_method_4_code
def yX3_letterAt : MethodName := ⟨RX3, "letterAt", "(I)I"⟩
abbrev cX3_numberAt : ByteArray := prog_5_method_5_code
def yX3_numberAt : MethodName := ⟨RX3, "numberAt", "(I)I"⟩
abbrev cX3_faultAsRule : ByteArray := prog_5_method_6_code
def yX3_faultAsRule : MethodName := ⟨RX3, "faultAsRule", "()I"⟩
abbrev cX3_tellsNoKey : ByteArray := prog_5_method_7_code
def yX3_tellsNoKey : MethodName := ⟨RX3, "tellsNoKey", "(II)Z"⟩
def RX4 : String := "BuildEngine$Target"
def TX4 : u_T := fun k => match k with
  | 0 => ("BuildEngine$Target", "stepCount", "I", false)
  | 1 => ("BuildEngine$Target", "signs", "[I", true)
  | 2 => ("BuildEngine$Target", "figures", "[I", true)
  | 3 => ("BuildEngine$Target", "result", "LBuildEngine$Result;", false)
  | 4 => ("BuildEngine$Target", "traceLength", "I", false)
  | 5 => ("BuildEngine$Target", "tracedKeys", "[I", true)
  | _ => ("BuildEngine$Target", "tracedResults", "[LBuildEngine$Result;", true)
def tyX4 : Nat → FieldType := fun k => match k with
  | 0 => .int
  | 1 => .array .int
  | 2 => .array .int
  | 3 => .object "BuildEngine$Result"
  | 4 => .int
  | 5 => .array .int
  | _ => .array (.object "BuildEngine$Result")
abbrev wsX40 : List Cond := u_ws RX4 TX4 7
theorem nmX4 : ∀ a, a < 7 → ∀ b, b < 7 → a ≠ b → (TX4 a).2.1 ≠ (TX4 b).2.1 := by decide +kernel
theorem tyX4_ok : ∀ k, k < 7 → parseFieldDescriptor (TX4 k).2.2.1 = some (tyX4 k) := by decide +kernel
abbrev cX4_init : ByteArray := prog_6_method_1_code
def yX4_init : MethodName := ⟨RX4, "<init>", "()V"⟩
abbrev cX4_signAt : ByteArray := prog_6_method_2_code
def yX4_signAt : MethodName := ⟨RX4, "signAt", "(I)I"⟩
abbrev cX4_figuresAt : ByteArray := prog_6_method_3_code
def yX4_figuresAt : MethodName := ⟨RX4, "figuresAt", "(I)I"⟩
abbrev cX4_readRule : ByteArray := prog_6_method_4_code
def yX4_readRule : MethodName := ⟨RX4, "readRule", "(LBuildEngine$Tape;)V"⟩
abbrev cX4_takeRule : ByteArray := prog_6_method_5_code
def yX4_takeRule : MethodName := ⟨RX4, "takeRule", "(LBuildEngine$Target;)V"⟩
abbrev cX4_copyRule : ByteArray := prog_6_method_6_code
def yX4_copyRule : MethodName := ⟨RX4, "copyRule", "(LBuildEngine$Target;)V"⟩
abbrev cX4_dropRule : ByteArray := prog_6_method_7_code
def yX4_dropRule : MethodName := ⟨RX4, "dropRule", "()V"⟩
abbrev cX4_hasTrace : ByteArray := prog_6_method_8_code
def yX4_hasTrace : MethodName := ⟨RX4, "hasTrace", "()Z"⟩
abbrev cX4_dropTrace : ByteArray := prog_6_method_9_code
def yX4_dropTrace : MethodName := ⟨RX4, "dropTrace", "()V"⟩
abbrev cX4_startTrace : ByteArray := prog_6_method_10_code
def yX4_startTrace : MethodName := ⟨RX4, "startTrace", "()V"⟩
abbrev cX4_noteInTrace : ByteArray := prog_6_method_11_code
def yX4_noteInTrace : MethodName := ⟨RX4, "noteInTrace", "(ILBuildEngine$Result;)V"⟩
abbrev cX4_traces : ByteArray := prog_6_method_12_code
def yX4_traces : MethodName := ⟨RX4, "traces", "(I)Z"⟩
abbrev cX4_tracedKey : ByteArray := prog_6_method_13_code
def yX4_tracedKey : MethodName := ⟨RX4, "tracedKey", "(I)I"⟩
abbrev cX4_tracedResult : ByteArray := prog_6_method_14_code
def yX4_tracedResult : MethodName := ⟨RX4, "tracedResult", "(I)LBuildEngine$Result;"⟩
abbrev cX4_copyFrom : ByteArray := prog_6_method_15_code
def yX4_copyFrom : MethodName := ⟨RX4, "copyFrom", "(LBuildEngine$Target;)V"⟩
def RX5 : String := "BuildEngine$World"
def TX5 : u_T := fun k => match k with
  | 0 => ("BuildEngine$World", "contents", "[LBuildEngine$Result;", true)
  | 1 => ("BuildEngine$World", "targets", "[LBuildEngine$Target;", true)
  | 2 => ("BuildEngine$World", "empties", "[LBuildEngine$Result;", true)
  | _ => ("BuildEngine$World", "depths", "[I", true)
def tyX5 : Nat → FieldType := fun k => match k with
  | 0 => .array (.object "BuildEngine$Result")
  | 1 => .array (.object "BuildEngine$Target")
  | 2 => .array (.object "BuildEngine$Result")
  | _ => .array .int
abbrev wsX50 : List Cond := u_ws RX5 TX5 4
theorem nmX5 : ∀ a, a < 4 → ∀ b, b < 4 → a ≠ b → (TX5 a).2.1 ≠ (TX5 b).2.1 := by decide +kernel
theorem tyX5_ok : ∀ k, k < 4 → parseFieldDescriptor (TX5 k).2.2.1 = some (tyX5 k) := by decide +kernel
abbrev cX5_init : ByteArray := prog_7_method_1_code
def yX5_init : MethodName := ⟨RX5, "<init>", "()V"⟩
abbrev cX5_targetOf : ByteArray := prog_7_method_2_code
def yX5_targetOf : MethodName := ⟨RX5, "targetOf", "(I)LBuildEngine$Target;"⟩
abbrev cX5_contentOf : ByteArray := prog_7_method_3_code
def yX5_contentOf : MethodName := ⟨RX5, "contentOf", "(I)LBuildEngine$Result;"⟩
abbrev cX5_giveContent : ByteArray := prog_7_method_4_code
def yX5_giveContent : MethodName := ⟨RX5, "giveContent", "(II)Z"⟩
abbrev cX5_takeContent : ByteArray := prog_7_method_5_code
def yX5_takeContent : MethodName := ⟨RX5, "takeContent", "(I)V"⟩
abbrev cX5_emptyOf : ByteArray := prog_7_method_6_code
def yX5_emptyOf : MethodName := ⟨RX5, "emptyOf", "(I)LBuildEngine$Result;"⟩
abbrev cX5_resultOf : ByteArray := prog_7_method_7_code
def yX5_resultOf : MethodName := ⟨RX5, "resultOf", "(I)LBuildEngine$Result;"⟩
abbrev cX5_failureOf : ByteArray := prog_7_method_8_code
def yX5_failureOf : MethodName := ⟨RX5, "failureOf", "(I)LBuildEngine$Result;"⟩
abbrev cX5_toldResult : ByteArray := prog_7_method_9_code
def yX5_toldResult : MethodName := ⟨RX5, "toldResult", "(I)I"⟩
abbrev cX5_targetsFailingBy : ByteArray := prog_7_method_10_code
def yX5_targetsFailingBy : MethodName := ⟨RX5, "targetsFailingBy", "(I)I"⟩
abbrev cX5_targetsTracing : ByteArray := prog_7_method_11_code
def yX5_targetsTracing : MethodName := ⟨RX5, "targetsTracing", "(I)I"⟩
abbrev cX5_targetsUpToDate : ByteArray := prog_7_method_12_code
def yX5_targetsUpToDate : MethodName := ⟨RX5, "targetsUpToDate", "()I"⟩
abbrev cX5_isUpToDate : ByteArray := prog_7_method_13_code
def yX5_isUpToDate : MethodName := ⟨RX5, "isUpToDate", "(LBuildEngine$Target;)Z"⟩
abbrev cX5_depthOf : ByteArray := prog_7_method_14_code
def yX5_depthOf : MethodName := ⟨RX5, "depthOf", "(I)I"⟩
abbrev cX5_deepenAll : ByteArray := prog_7_method_15_code
def yX5_deepenAll : MethodName := ⟨RX5, "deepenAll", "()Z"⟩
abbrev cX5_depthByTrace : ByteArray := prog_7_method_16_code
def yX5_depthByTrace : MethodName := ⟨RX5, "depthByTrace", "(LBuildEngine$Target;)I"⟩
abbrev cX5_unlikeResults : ByteArray := prog_7_method_17_code
def yX5_unlikeResults : MethodName := ⟨RX5, "unlikeResults", "()I"⟩
abbrev cX5_hasSameBelow : ByteArray := prog_7_method_18_code
def yX5_hasSameBelow : MethodName := ⟨RX5, "hasSameBelow", "(I)Z"⟩
abbrev cX5_ruleCount : ByteArray := prog_7_method_19_code
def yX5_ruleCount : MethodName := ⟨RX5, "ruleCount", "()I"⟩
abbrev cX5_traceCount : ByteArray := prog_7_method_20_code
def yX5_traceCount : MethodName := ⟨RX5, "traceCount", "()I"⟩
abbrev cX5_resultCount : ByteArray := prog_7_method_21_code
def yX5_resultCount : MethodName := ⟨RX5, "resultCount", "()I"⟩
abbrev cX5_failureCount : ByteArray := prog_7_method_22_code
def yX5_failureCount : MethodName := ⟨RX5, "failureCount", "()I"⟩
abbrev cX5_copyFrom : ByteArray := prog_7_method_23_code
def yX5_copyFrom : MethodName := ⟨RX5, "copyFrom", "(LBuildEngine$World;)V"⟩
def RX6 : String := "BuildEngine"
def TX6 : u_T := fun k => match k with
  | 0 => ("BuildEngine", "builder", "LBuildEngine$Builder;", true)
  | 1 => ("BuildEngine", "trier", "LBuildEngine$Builder;", true)
  | 2 => ("BuildEngine", "world", "LBuildEngine$World;", true)
  | 3 => ("BuildEngine", "imageWorld", "LBuildEngine$World;", true)
  | 4 => ("BuildEngine", "tape", "LBuildEngine$Tape;", true)
  | 5 => ("BuildEngine", "rows", "[LBuildEngine$Row;", true)
  | _ => ("BuildEngine", "hasImage", "Z", false)
def tyX6 : Nat → FieldType := fun k => match k with
  | 0 => .object "BuildEngine$Builder"
  | 1 => .object "BuildEngine$Builder"
  | 2 => .object "BuildEngine$World"
  | 3 => .object "BuildEngine$World"
  | 4 => .object "BuildEngine$Tape"
  | 5 => .array (.object "BuildEngine$Row")
  | _ => .boolean
abbrev wsX60 : List Cond := u_ws RX6 TX6 7
theorem nmX6 : ∀ a, a < 7 → ∀ b, b < 7 → a ≠ b → (TX6 a).2.1 ≠ (TX6 b).2.1 := by decide +kernel
theorem tyX6_ok : ∀ k, k < 7 → parseFieldDescriptor (TX6 k).2.2.1 = some (tyX6 k) := by decide +kernel
abbrev cX6_init : ByteArray := prog_1_method_1_code
def yX6_init : MethodName := ⟨RX6, "<init>", "()V"⟩
abbrev cX6_give : ByteArray := prog_1_method_2_code
def yX6_give : MethodName := ⟨RX6, "give", "(II)I"⟩
abbrev cX6_take : ByteArray := prog_1_method_3_code
def yX6_take : MethodName := ⟨RX6, "take", "(I)I"⟩
abbrev cX6_feed : ByteArray := prog_1_method_4_code
def yX6_feed : MethodName := ⟨RX6, "feed", "(I)I"⟩
abbrev cX6_clear : ByteArray := prog_1_method_5_code
def yX6_clear : MethodName := ⟨RX6, "clear", "()I"⟩
abbrev cX6_rule : ByteArray := prog_1_method_6_code
def yX6_rule : MethodName := ⟨RX6, "rule", "(I)I"⟩
abbrev cX6_drop : ByteArray := prog_1_method_7_code
def yX6_drop : MethodName := ⟨RX6, "drop", "(I)I"⟩
abbrev cX6_copy : ByteArray := prog_1_method_8_code
def yX6_copy : MethodName := ⟨RX6, "copy", "(II)I"⟩
abbrev cX6_step : ByteArray := prog_1_method_9_code
def yX6_step : MethodName := ⟨RX6, "step", "(II)I"⟩
abbrev cX6_build : ByteArray := prog_1_method_10_code
def yX6_build : MethodName := ⟨RX6, "build", "(I)I"⟩
abbrev cX6_all : ByteArray := prog_1_method_11_code
def yX6_all : MethodName := ⟨RX6, "all", "(I)I"⟩
abbrev cX6_some : ByteArray := prog_1_method_12_code
def yX6_some : MethodName := ⟨RX6, "some", "(II)I"⟩
abbrev cX6_tried : ByteArray := prog_1_method_13_code
def yX6_tried : MethodName := ⟨RX6, "tried", "(III)I"⟩
abbrev cX6_result : ByteArray := prog_1_method_14_code
def yX6_result : MethodName := ⟨RX6, "result", "(I)I"⟩
abbrev cX6_failure : ByteArray := prog_1_method_15_code
def yX6_failure : MethodName := ⟨RX6, "failure", "(III)I"⟩
abbrev cX6_causes : ByteArray := prog_1_method_16_code
def yX6_causes : MethodName := ⟨RX6, "causes", "(I)I"⟩
abbrev cX6_root : ByteArray := prog_1_method_17_code
def yX6_root : MethodName := ⟨RX6, "root", "(I)I"⟩
abbrev cX6_blamed : ByteArray := prog_1_method_18_code
def yX6_blamed : MethodName := ⟨RX6, "blamed", "(I)I"⟩
abbrev cX6_trace : ByteArray := prog_1_method_19_code
def yX6_trace : MethodName := ⟨RX6, "trace", "(II)I"⟩
abbrev cX6_seen : ByteArray := prog_1_method_20_code
def yX6_seen : MethodName := ⟨RX6, "seen", "(II)I"⟩
abbrev cX6_users : ByteArray := prog_1_method_21_code
def yX6_users : MethodName := ⟨RX6, "users", "(I)I"⟩
abbrev cX6_depth : ByteArray := prog_1_method_22_code
def yX6_depth : MethodName := ⟨RX6, "depth", "(I)I"⟩
abbrev cX6_order : ByteArray := prog_1_method_23_code
def yX6_order : MethodName := ⟨RX6, "order", "(I)I"⟩
abbrev cX6_unlike : ByteArray := prog_1_method_24_code
def yX6_unlike : MethodName := ⟨RX6, "unlike", "()I"⟩
abbrev cX6_fresh : ByteArray := prog_1_method_25_code
def yX6_fresh : MethodName := ⟨RX6, "fresh", "()I"⟩
abbrev cX6_forget : ByteArray := prog_1_method_26_code
def yX6_forget : MethodName := ⟨RX6, "forget", "(I)I"⟩
abbrev cX6_told : ByteArray := prog_1_method_27_code
def yX6_told : MethodName := ⟨RX6, "told", "(I)I"⟩
abbrev cX6_list : ByteArray := prog_1_method_28_code
def yX6_list : MethodName := ⟨RX6, "list", "(II)I"⟩
abbrev cX6_put : ByteArray := prog_1_method_29_code
def yX6_put : MethodName := ⟨RX6, "put", "(IIJ)I"⟩
abbrev cX6_get : ByteArray := prog_1_method_30_code
def yX6_get : MethodName := ⟨RX6, "get", "(II)J"⟩
abbrev cX6_move : ByteArray := prog_1_method_31_code
def yX6_move : MethodName := ⟨RX6, "move", "(IIIII)I"⟩
abbrev cX6_lay : ByteArray := prog_1_method_32_code
def yX6_lay : MethodName := ⟨RX6, "lay", "(II)I"⟩
abbrev cX6_judge : ByteArray := prog_1_method_33_code
def yX6_judge : MethodName := ⟨RX6, "judge", "(II)I"⟩
abbrev cX6_image : ByteArray := prog_1_method_34_code
def yX6_image : MethodName := ⟨RX6, "image", "()I"⟩
abbrev cX6_undo : ByteArray := prog_1_method_35_code
def yX6_undo : MethodName := ⟨RX6, "undo", "()I"⟩
abbrev cX6_rowOf : ByteArray := prog_1_method_36_code
def yX6_rowOf : MethodName := ⟨RX6, "rowOf", "(I)LBuildEngine$Row;"⟩
abbrev cX6_isInput : ByteArray := prog_1_method_37_code
def yX6_isInput : MethodName := ⟨RX6, "isInput", "(I)Z"⟩
abbrev cX6_isTarget : ByteArray := prog_1_method_38_code
def yX6_isTarget : MethodName := ⟨RX6, "isTarget", "(I)Z"⟩
abbrev cX6_isKey : ByteArray := prog_1_method_39_code
def yX6_isKey : MethodName := ⟨RX6, "isKey", "(I)Z"⟩
abbrev cX6_isContent : ByteArray := prog_1_method_40_code
def yX6_isContent : MethodName := ⟨RX6, "isContent", "(J)Z"⟩
abbrev cX6_isStops : ByteArray := prog_1_method_41_code
def yX6_isStops : MethodName := ⟨RX6, "isStops", "(I)Z"⟩
abbrev cX6_asksForKey : ByteArray := prog_1_method_42_code
def yX6_asksForKey : MethodName := ⟨RX6, "asksForKey", "(I)Z"⟩
abbrev cX6_isSign : ByteArray := prog_1_method_43_code
def yX6_isSign : MethodName := ⟨RX6, "isSign", "(I)Z"⟩
abbrev cX6_isFigure : ByteArray := prog_1_method_44_code
def yX6_isFigure : MethodName := ⟨RX6, "isFigure", "(I)Z"⟩
def RX7 : String := "BuildEngineModel"
def TX7 : u_T := fun k => match k with
  | 0 => ("BuildEngineModel", "failedKey", "[I", true)
  | 1 => ("BuildEngineModel", "failedSort", "[I", true)
  | 2 => ("BuildEngineModel", "failedStep", "[I", true)
  | 3 => ("BuildEngineModel", "failedBy", "[I", true)
  | 4 => ("BuildEngineModel", "failures", "I", false)
  | 5 => ("BuildEngineModel", "now", "[I", true)
  | 6 => ("BuildEngineModel", "then", "[I", true)
  | 7 => ("BuildEngineModel", "ahead", "[I", true)
  | 8 => ("BuildEngineModel", "kept", "Z", false)
  | 9 => ("BuildEngineModel", "tape", "[I", true)
  | 10 => ("BuildEngineModel", "length", "I", false)
  | 11 => ("BuildEngineModel", "done", "[Z", true)
  | 12 => ("BuildEngineModel", "building", "[Z", true)
  | 13 => ("BuildEngineModel", "order", "[I", true)
  | 14 => ("BuildEngineModel", "ordered", "I", false)
  | 15 => ("BuildEngineModel", "stoppedBy", "I", false)
  | 16 => ("BuildEngineModel", "starts", "I", false)
  | 17 => ("BuildEngineModel", "putOffs", "I", false)
  | 18 => ("BuildEngineModel", "spared", "I", false)
  | 19 => ("BuildEngineModel", "cuts", "I", false)
  | 20 => ("BuildEngineModel", "asked", "[I", true)
  | 21 => ("BuildEngineModel", "saw", "[I", true)
  | 22 => ("BuildEngineModel", "askedMany", "I", false)
  | 23 => ("BuildEngineModel", "wasDone", "[Z", true)
  | 24 => ("BuildEngineModel", "wasOrder", "[I", true)
  | 25 => ("BuildEngineModel", "depths", "[I", true)
  | 26 => ("BuildEngineModel", "sizes", "[I", true)
  | 27 => ("BuildEngineModel", "items", "[J", true)
  | _ => ("BuildEngineModel", "moved", "[J", true)
def tyX7 : Nat → FieldType := fun k => match k with
  | 0 => .array .int
  | 1 => .array .int
  | 2 => .array .int
  | 3 => .array .int
  | 4 => .int
  | 5 => .array .int
  | 6 => .array .int
  | 7 => .array .int
  | 8 => .boolean
  | 9 => .array .int
  | 10 => .int
  | 11 => .array .boolean
  | 12 => .array .boolean
  | 13 => .array .int
  | 14 => .int
  | 15 => .int
  | 16 => .int
  | 17 => .int
  | 18 => .int
  | 19 => .int
  | 20 => .array .int
  | 21 => .array .int
  | 22 => .int
  | 23 => .array .boolean
  | 24 => .array .int
  | 25 => .array .int
  | 26 => .array .int
  | 27 => .array .long
  | _ => .array .long
abbrev wsX70 : List Cond := u_ws RX7 TX7 29
theorem nmX7 : ∀ a, a < 29 → ∀ b, b < 29 → a ≠ b → (TX7 a).2.1 ≠ (TX7 b).2.1 := by decide +kernel
theorem tyX7_ok : ∀ k, k < 29 → parseFieldDescriptor (TX7 k).2.2.1 = some (tyX7 k) := by decide +kernel
abbrev cX7_isIn : ByteArray := prog_9_method_1_code
def yX7_isIn : MethodName := ⟨RX7, "isIn", "(JJJ)Z"⟩
abbrev cX7_isInput : ByteArray := prog_9_method_2_code
def yX7_isInput : MethodName := ⟨RX7, "isInput", "(I)Z"⟩
abbrev cX7_isTarget : ByteArray := prog_9_method_3_code
def yX7_isTarget : MethodName := ⟨RX7, "isTarget", "(I)Z"⟩
abbrev cX7_isKey : ByteArray := prog_9_method_4_code
def yX7_isKey : MethodName := ⟨RX7, "isKey", "(I)Z"⟩
abbrev cX7_numberResult : ByteArray := prog_9_method_5_code
def yX7_numberResult : MethodName := ⟨RX7, "numberResult", "(I)I"⟩
abbrev cX7_fails : ByteArray := prog_9_method_6_code
def yX7_fails : MethodName := ⟨RX7, "fails", "(IIII)I"⟩
abbrev cX7_isFailure : ByteArray := prog_9_method_7_code
def yX7_isFailure : MethodName := ⟨RX7, "isFailure", "(I)Z"⟩
abbrev cX7_numberOf : ByteArray := prog_9_method_8_code
def yX7_numberOf : MethodName := ⟨RX7, "numberOf", "(I)I"⟩
abbrev cX7_toldOf : ByteArray := prog_9_method_9_code
def yX7_toldOf : MethodName := ⟨RX7, "toldOf", "(I)I"⟩
abbrev cX7_init : ByteArray := prog_9_method_10_code
def yX7_init : MethodName := ⟨RX7, "<init>", "()V"⟩
abbrev cX7_pours : ByteArray := prog_9_method_11_code
def yX7_pours : MethodName := ⟨RX7, "pours", "([I[I)V"⟩
abbrev cX7_ruled : ByteArray := prog_9_method_12_code
def yX7_ruled : MethodName := ⟨RX7, "ruled", "(II)I"⟩
abbrev cX7_traceAt : ByteArray := prog_9_method_13_code
def yX7_traceAt : MethodName := ⟨RX7, "traceAt", "(I)I"⟩
abbrev cX7_traced : ByteArray := prog_9_method_14_code
def yX7_traced : MethodName := ⟨RX7, "traced", "(I)I"⟩
abbrev cX7_has : ByteArray := prog_9_method_15_code
def yX7_has : MethodName := ⟨RX7, "has", "(I)I"⟩
abbrev cX7_give : ByteArray := prog_9_method_16_code
def yX7_give : MethodName := ⟨RX7, "give", "(II)I"⟩
abbrev cX7_take : ByteArray := prog_9_method_17_code
def yX7_take : MethodName := ⟨RX7, "take", "(I)I"⟩
abbrev cX7_feed : ByteArray := prog_9_method_18_code
def yX7_feed : MethodName := ⟨RX7, "feed", "(I)I"⟩
abbrev cX7_clear : ByteArray := prog_9_method_19_code
def yX7_clear : MethodName := ⟨RX7, "clear", "()I"⟩
abbrev cX7_isAsking : ByteArray := prog_9_method_20_code
def yX7_isAsking : MethodName := ⟨RX7, "isAsking", "(I)Z"⟩
abbrev cX7_isSign : ByteArray := prog_9_method_21_code
def yX7_isSign : MethodName := ⟨RX7, "isSign", "(I)Z"⟩
abbrev cX7_isFigure : ByteArray := prog_9_method_22_code
def yX7_isFigure : MethodName := ⟨RX7, "isFigure", "(I)Z"⟩
abbrev cX7_fault : ByteArray := prog_9_method_23_code
def yX7_fault : MethodName := ⟨RX7, "fault", "()I"⟩
abbrev cX7_rule : ByteArray := prog_9_method_24_code
def yX7_rule : MethodName := ⟨RX7, "rule", "(I)I"⟩
abbrev cX7_drop : ByteArray := prog_9_method_25_code
def yX7_drop : MethodName := ⟨RX7, "drop", "(I)I"⟩
abbrev cX7_copy : ByteArray := prog_9_method_26_code
def yX7_copy : MethodName := ⟨RX7, "copy", "(II)I"⟩
abbrev cX7_step : ByteArray := prog_9_method_27_code
def yX7_step : MethodName := ⟨RX7, "step", "(II)I"⟩
abbrev cX7_isDone : ByteArray := prog_9_method_28_code
def yX7_isDone : MethodName := ⟨RX7, "isDone", "(I)Z"⟩
abbrev cX7_finishes : ByteArray := prog_9_method_29_code
def yX7_finishes : MethodName := ⟨RX7, "finishes", "(I)V"⟩
abbrev cX7_builds : ByteArray := prog_9_method_30_code
def yX7_builds : MethodName := ⟨RX7, "builds", "(I)V"⟩
abbrev cX7_isAsSeen : ByteArray := prog_9_method_31_code
def yX7_isAsSeen : MethodName := ⟨RX7, "isAsSeen", "(I)Z"⟩
abbrev cX7_notes : ByteArray := prog_9_method_32_code
def yX7_notes : MethodName := ⟨RX7, "notes", "(II)V"⟩
abbrev cX7_isOfRing : ByteArray := prog_9_method_33_code
def yX7_isOfRing : MethodName := ⟨RX7, "isOfRing", "(I)Z"⟩
abbrev cX7_runs : ByteArray := prog_9_method_34_code
def yX7_runs : MethodName := ⟨RX7, "runs", "(I)I"⟩
abbrev cX7_goes : ByteArray := prog_9_method_35_code
def yX7_goes : MethodName := ⟨RX7, "goes", "(I)I"⟩
abbrev cX7_manyDone : ByteArray := prog_9_method_36_code
def yX7_manyDone : MethodName := ⟨RX7, "manyDone", "()I"⟩
abbrev cX7_built : ByteArray := prog_9_method_37_code
def yX7_built : MethodName := ⟨RX7, "built", "(IZ)I"⟩
abbrev cX7_build : ByteArray := prog_9_method_38_code
def yX7_build : MethodName := ⟨RX7, "build", "(I)I"⟩
abbrev cX7_all : ByteArray := prog_9_method_39_code
def yX7_all : MethodName := ⟨RX7, "all", "(I)I"⟩
abbrev cX7_some : ByteArray := prog_9_method_40_code
def yX7_some : MethodName := ⟨RX7, "some", "(II)I"⟩
abbrev cX7_tried : ByteArray := prog_9_method_41_code
def yX7_tried : MethodName := ⟨RX7, "tried", "(III)I"⟩
abbrev cX7_result : ByteArray := prog_9_method_42_code
def yX7_result : MethodName := ⟨RX7, "result", "(I)I"⟩
abbrev cX7_causeOf : ByteArray := prog_9_method_43_code
def yX7_causeOf : MethodName := ⟨RX7, "causeOf", "(II)I"⟩
abbrev cX7_failure : ByteArray := prog_9_method_44_code
def yX7_failure : MethodName := ⟨RX7, "failure", "(III)I"⟩
abbrev cX7_causes : ByteArray := prog_9_method_45_code
def yX7_causes : MethodName := ⟨RX7, "causes", "(I)I"⟩
abbrev cX7_root : ByteArray := prog_9_method_46_code
def yX7_root : MethodName := ⟨RX7, "root", "(I)I"⟩
abbrev cX7_blamed : ByteArray := prog_9_method_47_code
def yX7_blamed : MethodName := ⟨RX7, "blamed", "(I)I"⟩
abbrev cX7_amiss : ByteArray := prog_9_method_48_code
def yX7_amiss : MethodName := ⟨RX7, "amiss", "(II)I"⟩
abbrev cX7_trace : ByteArray := prog_9_method_49_code
def yX7_trace : MethodName := ⟨RX7, "trace", "(II)I"⟩
abbrev cX7_seen : ByteArray := prog_9_method_50_code
def yX7_seen : MethodName := ⟨RX7, "seen", "(II)I"⟩
abbrev cX7_isTraced : ByteArray := prog_9_method_51_code
def yX7_isTraced : MethodName := ⟨RX7, "isTraced", "(II)Z"⟩
abbrev cX7_users : ByteArray := prog_9_method_52_code
def yX7_users : MethodName := ⟨RX7, "users", "(I)I"⟩
abbrev cX7_depth : ByteArray := prog_9_method_53_code
def yX7_depth : MethodName := ⟨RX7, "depth", "(I)I"⟩
abbrev cX7_order : ByteArray := prog_9_method_54_code
def yX7_order : MethodName := ⟨RX7, "order", "(I)I"⟩
abbrev cX7_unlike : ByteArray := prog_9_method_55_code
def yX7_unlike : MethodName := ⟨RX7, "unlike", "()I"⟩
abbrev cX7_fresh : ByteArray := prog_9_method_56_code
def yX7_fresh : MethodName := ⟨RX7, "fresh", "()I"⟩
abbrev cX7_forget : ByteArray := prog_9_method_57_code
def yX7_forget : MethodName := ⟨RX7, "forget", "(I)I"⟩
abbrev cX7_having : ByteArray := prog_9_method_58_code
def yX7_having : MethodName := ⟨RX7, "having", "(I)I"⟩
abbrev cX7_told : ByteArray := prog_9_method_59_code
def yX7_told : MethodName := ⟨RX7, "told", "(I)I"⟩
abbrev cX7_isList : ByteArray := prog_9_method_60_code
def yX7_isList : MethodName := ⟨RX7, "isList", "(I)Z"⟩
abbrev cX7_list : ByteArray := prog_9_method_61_code
def yX7_list : MethodName := ⟨RX7, "list", "(II)I"⟩
abbrev cX7_put : ByteArray := prog_9_method_62_code
def yX7_put : MethodName := ⟨RX7, "put", "(IIJ)I"⟩
abbrev cX7_get : ByteArray := prog_9_method_63_code
def yX7_get : MethodName := ⟨RX7, "get", "(II)J"⟩
abbrev cX7_move : ByteArray := prog_9_method_64_code
def yX7_move : MethodName := ⟨RX7, "move", "(IIIII)I"⟩
abbrev cX7_lay : ByteArray := prog_9_method_65_code
def yX7_lay : MethodName := ⟨RX7, "lay", "(II)I"⟩
abbrev cX7_judge : ByteArray := prog_9_method_66_code
def yX7_judge : MethodName := ⟨RX7, "judge", "(II)I"⟩
abbrev cX7_image : ByteArray := prog_9_method_67_code
def yX7_image : MethodName := ⟨RX7, "image", "()I"⟩
abbrev cX7_undo : ByteArray := prog_9_method_68_code
def yX7_undo : MethodName := ⟨RX7, "undo", "()I"⟩
def RJ9 : String := "java/lang/Math"
abbrev cJ9_max_7cf53 : ByteArray := prog_10_method_65_code
def yJ9_max_7cf53 : MethodName := ⟨RJ9, "max", "(II)I"⟩
abbrev cJ9_min_7cf53 : ByteArray := prog_10_method_69_code
def yJ9_min_7cf53 : MethodName := ⟨RJ9, "min", "(II)I"⟩
def RJ10 : String := "java/lang/System"
def RJ7 : String := "java/util/Arrays"
abbrev cJ7_fill_d0a16 : ByteArray := prog_12_method_101_code
def yJ7_fill_d0a16 : MethodName := ⟨RJ7, "fill", "([JJ)V"⟩
abbrev cJ7_fill_53178 : ByteArray := prog_12_method_103_code
def yJ7_fill_53178 : MethodName := ⟨RJ7, "fill", "([II)V"⟩
def RL : String := "BuildEngineLaw"
abbrev cL_law : ByteArray := code
def yL_law : MethodName := ⟨RL, "law", "([I)Z"⟩
end
section
/-! A method's run, over a heap told as a function of addresses. pm_H: the next address, the slots made, what the cells hold. -/
abbrev pm_M : Type := MethodName × ByteArray × Nat × Option FieldType
abbrev pm_H : Type := Nat × Nat × (Nat → Option va_E)
abbrev pm_Ls : Type := List (Option Value)
def pm_cl : List vw_C := [(RX0, TX0, 11), (RX1, TX1, 5), (RX2, TX2, 3), (RX3, TX3, 2), (RX4, TX4, 7), (RX5, TX5, 4), (RX6, TX6, 7), (RX7, TX7, 29)]
/-- the types of arrays by numbers -/
def pm_ty : Nat → FieldType := fun t => match t with
  | 0 => .int
  | 1 => .long
  | 2 => .boolean
  | 3 => .object RX1
  | 4 => .object RX4
  | _ => .object RX2
abbrev pm_ia (t n : Nat) (f : Nat → Int32) : va_E := .inl (t, n, .inl f)
abbrev pm_la (n : Nat) (f : Nat → Int64) : va_E := .inl (1, n, .inr (.inl f))
abbrev pm_qa (t n : Nat) (f : Nat → Option Nat) : va_E := .inl (t, n, .inr (.inr (.inr (.inr f))))
abbrev pm_ob (ci : Nat) (fs : List Value) : va_E := .inr (ci, fs)
/-- a cell of ours lies from B on; the script (type 9) ahead of B, and is only read -/
def pm_at (B : Nat) (D : va_G) (s : State) (a : Nat) (e : va_E) (H : Heap) : Prop := match e with
  | .inl (t, x) => if t = 9 then a < B ∧ ∃ (L : Nat) (xs : Nat → Int32), x = (L, .inl xs) ∧ va_X a L xs s H
    else B ≤ a ∧ ∃ cA : ClassId, ArrOfT s cA (pm_ty t) ∧ va_RA s cA (pm_ty t) ∧ H[a]? = some (vp_cell cA x)
  | .inr o => B ≤ a ∧ va_at D pm_cl (a, .inr o) H
def pm_R (B : Nat) (D : va_G) (s : State) (H : Heap) (h : pm_H) : Prop := H.size = h.1 ∧ B ≤ h.1 ∧ ∀ (a : Nat) (e : va_E), h.2.2 a = some e → pm_at B D s a e H
theorem pm_at.lt {B : Nat} {D : va_G} {s : State} {a : Nat} {e : va_E} {H : Heap} (h : pm_at B D s a e H) : a < H.size := by
  rcases e with ⟨t, x⟩ | q
  · unfold pm_at at h
    dsimp only at h
    split at h
    · obtain ⟨-, L, xs, -, scr, h1, -⟩ := h
      exact (Array.getElem?_eq_some_iff.mp h1).1
    · obtain ⟨-, cA, -, -, h1⟩ := h
      exact (Array.getElem?_eq_some_iff.mp h1).1
  · exact va_at.lt (D := D) (cl := pm_cl) (q := (a, .inr q)) h.2
theorem pm_at.kept {B : Nat} {D : va_G} {s : State} {a : Nat} {e : va_E} {H H1 : Heap} (h : pm_at B D s a e H) (hq : H1[a]? = H[a]?) : pm_at B D s a e H1 := by
  rcases e with ⟨t, x⟩ | q
  · unfold pm_at at h ⊢
    dsimp only at h ⊢
    split at h
    · next ht =>
      rw [if_pos ht]
      obtain ⟨h0, L, xs, hx, hX⟩ := h
      exact ⟨h0, L, xs, hx, hX.kept hq⟩
    · next ht =>
      rw [if_neg ht]
      obtain ⟨h0, cA, h1, h2, h3⟩ := h
      exact ⟨h0, cA, h1, h2, hq.trans h3⟩
  · exact ⟨h.1, va_at.kept (q := (a, .inr q)) h.2 hq⟩
theorem pm_at.moved {B : Nat} {D : va_G} {u U : State} (hvm : u.vm.Alike U.vm) {a : Nat} {e : va_E} {H : Heap} (h : pm_at B D u a e H) : pm_at B D U a e H := by
  rcases e with ⟨t, x⟩ | q
  · unfold pm_at at h ⊢
    dsimp only at h ⊢
    split at h
    · next ht =>
      rw [if_pos ht]
      obtain ⟨h0, L, xs, hx, hX⟩ := h
      exact ⟨h0, L, xs, hx, hX.moved hvm⟩
    · next ht =>
      rw [if_neg ht]
      obtain ⟨h0, cA, h1, h2, h3⟩ := h
      exact ⟨h0, cA, arrOfT_moved hvm h1, h2.moved hvm, h3⟩
  · exact h
theorem pm_R.moved {B : Nat} {D : va_G} {u U : State} (hvm : u.vm.Alike U.vm) {H : Heap} {h : pm_H} (hR : pm_R B D u H h) : pm_R B D U H h := ⟨hR.1, hR.2.1, fun a e he => (hR.2.2 a e he).moved hvm⟩
theorem pm_R.set {B : Nat} {D : va_G} {s : State} {H H1 : Heap} {n w a : Nat} {f : Nat → Option va_E} {e : va_E} (hR : pm_R B D s H (n, w, f)) (he : pm_at B D s a e H1) (hz : H1.size = H.size) (hq : ∀ q : Nat, q ≠ a → H1[q]? = H[q]?) : pm_R B D s H1 (n, w, va_up f a (some e)) := by
  refine ⟨hz.trans hR.1, hR.2.1, fun b e' hb => ?_⟩
  by_cases hba : b = a
  · subst hba
    rw [show (n, w, va_up f b (some e)).2.2 b = some e from va_up_self f b _] at hb
    cases hb
    exact he
  · rw [show (n, w, va_up f a (some e)).2.2 b = f b from va_up_ne f _ hba] at hb
    exact (hR.2.2 b e' hb).kept (hq b hba)
theorem pm_R.push {B : Nat} {D : va_G} {s : State} {H H1 : Heap} {n w w1 : Nat} {f : Nat → Option va_E} {e : va_E} (hR : pm_R B D s H (n, w, f)) (he : pm_at B D s n e H1) (hz : H1.size = n + 1) (hq : ∀ q : Nat, q < n → H1[q]? = H[q]?) : pm_R B D s H1 (n + 1, w1, va_up f n (some e)) := by
  refine ⟨hz, Nat.le_succ_of_le hR.2.1, fun b e' hb => ?_⟩
  by_cases hba : b = n
  · subst hba
    rw [show (b + 1, w1, va_up f b (some e)).2.2 b = some e from va_up_self f b _] at hb
    cases hb
    exact he
  · rw [show (n + 1, w1, va_up f n (some e)).2.2 b = f b from va_up_ne f _ hba] at hb
    have h1 := hR.2.2 b e' hb
    have h2 := h1.lt
    rw [hR.1] at h2
    exact h1.kept (hq b h2)
/-! the locals: a list of places -/
def pm_L (lsA : Array Slot) (nL : Nat) (ls : pm_Ls) : Prop := lsA.size = nL ∧ lv_wf lsA ∧ ls.length = nL ∧ ∀ (i : Nat) (v : Value), ls[i]? = some (some v) → lsA[i]? = some (.val v)
def pm_lv (ls : pm_Ls) : List (Nat × Value) := (List.range ls.length).filterMap (fun j => (ls.getD j none).map (fun v => (j, v)))
theorem pm_lv_mem {ls : pm_Ls} {j : Nat} {v : Value} : (j, v) ∈ pm_lv ls ↔ ls[j]? = some (some v) := by
  unfold pm_lv
  rw [List.mem_filterMap]
  constructor
  · rintro ⟨k, hk, he⟩
    rw [List.mem_range] at hk
    rw [List.getD_eq_getElem?_getD] at he
    cases hg : ls[k]? with
    | none => rw [hg] at he; simp at he
    | some z =>
      rw [hg] at he
      cases z with
      | none => simp at he
      | some u =>
        simp at he
        obtain ⟨h1, h2⟩ := he
        subst h1; subst h2
        exact hg
  · intro h
    refine ⟨j, List.mem_range.mpr (List.getElem?_eq_some_iff.mp h).1, ?_⟩
    rw [List.getD_eq_getElem?_getD, h]
    rfl
theorem pm_L.has {lsA : Array Slot} {nL : Nat} {ls : pm_Ls} (h : pm_L lsA nL ls) : lv_has lsA nL (pm_lv ls) := ⟨h.1, h.2.1, fun q hq => h.2.2.2 q.1 q.2 (pm_lv_mem.mp hq)⟩
def pm_nl : Option Value → Bool := fun v => match v with
  | some (.long _) => false
  | some (.double _) => false
  | _ => true
theorem pm_nl_cat {v : Value} (h : pm_nl (some v) = true) : ¬ v.category = 2 := by
  cases v <;> simp [pm_nl, Value.category] at h ⊢
/-- a value of one slot at place i -/
theorem pm_L.put1 {lsA lsB : Array Slot} {nL i : Nat} {v : Value} {ls : pm_Ls} (h : pm_L lsA nL ls) (hn : ∀ z, 0 < i → ls[i - 1]? = some z → pm_nl z = true)
    (hB : lv_has lsB nL ((i, v) :: (pm_lv ls).filter (fun q => !(q.1 == i) && !(q.1 + 1 == i && q.2.category == 2)))) : pm_L lsB nL (ls.set i (some v)) := by
  refine ⟨hB.1, hB.2.1, by rw [List.length_set]; exact h.2.2.1, fun j u hj => ?_⟩
  by_cases hji : i = j
  · subst hji
    rw [List.getElem?_set] at hj
    simp only [if_true] at hj
    split at hj
    · cases hj
      exact hB.2.2 (i, v) List.mem_cons_self
    · cases hj
  · rw [List.getElem?_set_ne hji] at hj
    refine hB.2.2 (j, u) (List.mem_cons_of_mem _ (List.mem_filter.mpr ⟨pm_lv_mem.mpr hj, ?_⟩))
    have h1 : (j == i) = false := by simp; exact fun e => hji e.symm
    simp only [h1, Bool.not_false, Bool.true_and]
    by_cases hj1 : j + 1 = i
    · have h2 := hn (some u) (by omega) (by rw [show i - 1 = j by omega]; exact hj)
      have h3 := pm_nl_cat h2
      have h4 : (u.category == 2) = false := by simp; exact h3
      simp [h4]
    · have h4 : (j + 1 == i) = false := by simp; exact hj1
      simp [h4]
/-- a long at place i -/
theorem pm_L.put2 {lsA lsB : Array Slot} {nL i : Nat} {v : Value} {ls : pm_Ls} (h : pm_L lsA nL ls) (hn : ∀ z, 0 < i → ls[i - 1]? = some z → pm_nl z = true)
    (hB : lv_has lsB nL ((i, v) :: (pm_lv ls).filter (fun q => !(q.1 == i) && (!(q.1 == i + 1) && !(q.1 + 1 == i && q.2.category == 2))))) : pm_L lsB nL ((ls.set i (some v)).set (i + 1) none) := by
  refine ⟨hB.1, hB.2.1, by rw [List.length_set, List.length_set]; exact h.2.2.1, fun j u hj => ?_⟩
  by_cases hj2 : i + 1 = j
  · subst hj2
    rw [List.getElem?_set] at hj
    simp only [if_true] at hj
    split at hj <;> cases hj
  rw [List.getElem?_set_ne hj2] at hj
  by_cases hji : i = j
  · subst hji
    rw [List.getElem?_set] at hj
    simp only [if_true] at hj
    split at hj
    · cases hj
      exact hB.2.2 (i, v) List.mem_cons_self
    · cases hj
  · rw [List.getElem?_set_ne hji] at hj
    refine hB.2.2 (j, u) (List.mem_cons_of_mem _ (List.mem_filter.mpr ⟨pm_lv_mem.mpr hj, ?_⟩))
    have h1 : (j == i) = false := by simp; exact fun e => hji e.symm
    have h1b : (j == i + 1) = false := by simp; exact fun e => hj2 e.symm
    simp only [h1, h1b, Bool.not_false, Bool.true_and]
    by_cases hj1 : j + 1 = i
    · have h2 := hn (some u) (by omega) (by rw [show i - 1 = j by omega]; exact hj)
      have h3 := pm_nl_cat h2
      have h4 : (u.category == 2) = false := by simp; exact h3
      simp [h4]
    · have h4 : (j + 1 == i) = false := by simp; exact hj1
      simp [h4]
def pm_sl : List Value → pm_Ls
  | [] => []
  | v :: r => if v.category = 2 then some v :: none :: pm_sl r else some v :: pm_sl r
def pm_ent (n : Nat) (vs : List Value) : pm_Ls := pm_sl vs ++ List.replicate (n - (pm_sl vs).length) none
theorem pm_sl_len (vs : List Value) : (pm_sl vs).length = (lg_sl vs).length := by
  induction vs with
  | nil => rfl
  | cons v r ih =>
    unfold pm_sl
    unfold lg_sl at ih ⊢
    rw [List.flatMap_cons]
    split <;> simp [ih] <;> omega
theorem pm_sl_args : ∀ (vs : List Value) (k i : Nat) (v : Value), (pm_sl vs)[i]? = some (some v) → (k + i, v) ∈ lv_args k vs
  | [], k, i, v, h => by simp [pm_sl] at h
  | u :: r, k, i, v, h => by
    unfold pm_sl at h
    unfold lv_args
    split at h
    · next hc =>
      rw [if_pos hc]
      match i with
      | 0 => simp at h; subst h; simp
      | 1 => simp at h
      | j + 2 =>
        simp at h
        have := pm_sl_args r (k + 2) j v h
        rw [show k + 2 + j = k + (j + 2) by omega] at this
        exact List.mem_cons_of_mem _ this
    · next hc =>
      rw [if_neg hc]
      match i with
      | 0 => simp at h; subst h; simp
      | j + 1 =>
        simp at h
        have := pm_sl_args r (k + 1) j v h
        rw [show k + 1 + j = k + (j + 1) by omega] at this
        exact List.mem_cons_of_mem _ this
theorem pm_L.entry (vs : List Value) {n : Nat} (h : (pm_sl vs).length ≤ n) : pm_L ((lg_sl vs ++ List.replicate (n - (lg_sl vs).length) Slot.unset).toArray) n (pm_ent n vs) := by
  obtain ⟨h1, h2, h3⟩ := lv_entry vs (n := n) (by rw [← pm_sl_len]; exact h)
  refine ⟨h1, h2, by simp [pm_ent]; omega, fun i v hi => ?_⟩
  unfold pm_ent at hi
  by_cases hl : i < (pm_sl vs).length
  · rw [List.getElem?_append_left hl] at hi
    have := pm_sl_args vs 0 i v hi
    rw [Nat.zero_add] at this
    exact h3 (i, v) this
  · rw [List.getElem?_append_right (by omega), List.getElem?_replicate] at hi
    split at hi <;> cases hi
/-! what the tables say, kept while the program runs -/
def pm_K (D : va_G) (s : State) : Prop := va_K D pm_cl [] s ∧ (∀ (own : String) (i : Nat) (x : MethodName) (host : String), Cond.methodLinkNest own i x host ∈ lw_tbl → va_Nw (.methodLinkNest own i x host) s) ∧ (∀ C : String, Cond.arrayOver (.object C) ∈ lw_tbl → va_AO C s)
theorem pm_K.warm {D : va_G} {s U : State} (hW : s.WarmedH U.vm) (h : pm_K D s) : pm_K D U := ⟨va_K.moved hW.alike h.1, fun own i x host hm => va_Nw.warmM hW (h.2.1 own i x host hm), fun C hm => va_AO.moved hW.alike (h.2.2 C hm)⟩
theorem pm_K.same {D : va_G} {s U : State} (hv : s.vm = U.vm) (h : pm_K D s) : pm_K D U := ⟨va_K.moved (by rw [hv]; exact Vm.Alike.refl U.vm) h.1, fun own i x host hm => va_Nw.same rfl hv (h.2.1 own i x host hm), fun C hm => va_AO.moved (by rw [hv]; exact Vm.Alike.refl U.vm) (h.2.2 C hm)⟩
def pm_gw : List Cond := lw_tbl.filter goodWord
def pm_ws (μ : pm_M) : List Cond := Cond.code μ.1 μ.2.1 μ.2.2.1 μ.2.2.2 :: pm_gw
def pm_rm (d mc ms : Nat) : Room := { frames := d, cells := mc, slots := ms, locals := 40 * d }
/-- what a frame of a method stands on -/
def pm_cx (D : va_G) (d : Nat) (μ : pm_M) (p : Program) (R : Room) (s : State) (m : MethodId) (args : Array Value) (meth : Method) (c : Code) : Prop :=
  p.tables.exec = Jvm.exec ∧ c.code = μ.2.1 ∧ meth.sig.returnType = μ.2.2.2 ∧ c.maxLocals = μ.2.2.1 ∧ s.vm.findClass μ.1.cls = some m.cls ∧ (∀ w ∈ pm_gw, w.before args s = true) ∧ meth.locks = false ∧ meth.name = μ.1.name ∧ pm_K D s ∧ d ≤ R.frames ∧ 40 * d ≤ R.locals
def pm_ret : Option FieldType → Instr := fun t => match t with
  | none => .return_
  | some .long => .lreturn
  | some (.object _) => .areturn
  | some (.array _) => .areturn
  | some _ => .ireturn
def pm_end (B : Nat) (D : va_G) (μ : pm_M) (r : Option Value) (h1 : pm_H) (p : Program) (l : Launch) (e : Env) (R : Room) (s : State) (m : MethodId) (args : Array Value) (below : List Frame) (meth : Method) (c : Code) (n0 w0 : Nat) (Q : State → Prop) : Prop :=
  ∀ (H : Heap) (locs : List Loc) (lsA : Array Slot) (pc : Nat), decode μ.2.1 pc = .ok (pm_ret μ.2.2.2, 1) → pm_R B D s H h1 → (∀ q ∈ locs, B ≤ q.base) → W p l e R s m args below meth c H locs (h1.1 - n0) (h1.2.1 - w0) Q (F0 m pc lsA r.toList)
/-- from here the frame comes to its end: with the answer r, and the heap h1 -/
def EX (B : Nat) (D : va_G) (d : Nat) (μ : pm_M) (pc : Nat) (ls : pm_Ls) (st : List Value) (h : pm_H) (r : Option Value) (h1 : pm_H) : Prop :=
  (h.1 ≤ h1.1 ∧ h.2.1 ≤ h1.2.1) ∧ ∀ (p : Program) (l : Launch) (e : Env) (R : Room) (s : State) (m : MethodId) (args : Array Value) (below : List Frame) (meth : Method) (c : Code) (H : Heap) (locs : List Loc) (lsA : Array Slot) (n0 w0 : Nat) (Q : State → Prop),
    pm_cx D d μ p R s m args meth c → pm_L lsA μ.2.2.1 ls → pm_R B D s H h → (∀ q ∈ locs, B ≤ q.base) → n0 ≤ h.1 → w0 ≤ h.2.1 → h1.1 - n0 ≤ R.cells → h1.2.1 - w0 ≤ R.slots → pm_end B D μ r h1 p l e R s m args below meth c n0 w0 Q →
      W p l e R s m args below meth c H locs (h.1 - n0) (h.2.1 - w0) Q (F0 m pc lsA st)
/-- a method's contract: from the heap h it comes to the heap h1, with the answer r -/
def CT (B : Nat) (D : va_G) (d : Nat) (μ : pm_M) (as : List Value) (h : pm_H) (r : Option Value) (h1 : pm_H) : Prop :=
  (h.1 ≤ h1.1 ∧ h.2.1 ≤ h1.2.1) ∧ ∀ l : Launch, Met l μ.1 (pm_ws μ) (pm_rm d (h1.1 - h.1) (h1.2.1 - h.2.1)) (fun a U => a = as.toArray ∧ pm_K D U ∧ pm_R B D U U.heap h) (fun _ _ o t => o = .returned r ∧ pm_R B D t t.heap h1) (h1.1 - h.1) (h1.2.1 - h.2.1) (fun q => B ≤ q)
/-- the answer is of the kind that the method gives -/
def pm_rok : Option FieldType → Option Value → Prop := fun t r => match t, r with
  | none, none => True
  | some .int, some (.int _) => True
  | some .boolean, some (.int v) => v = 0 ∨ v = 1
  | some .long, some (.long _) => True
  | some (.object _), some .null => True
  | some (.object _), some (.ref _) => True
  | _, _ => False
theorem pm_bool_nar {v : Int32} (h : v = 0 ∨ v = 1) : narrow .boolean (.int v) = .int v := by
  rcases h with rfl | rfl <;> rfl
set_option maxHeartbeats 1000000 in
theorem CT.of {B : Nat} {D : va_G} {d : Nat} {μ : pm_M} {as : List Value} {h h1 : pm_H} {r : Option Value} (ls : pm_Ls) (hls : pm_ent μ.2.2.1 as = ls) (hlen : (pm_sl as).length ≤ μ.2.2.1) (hy : plainName μ.1.cls = true) (hr : pm_rok μ.2.2.2 r) (k : EX B D d μ 0 ls [] h r h1) : CT B D d μ as h r h1 := by
  subst hls
  refine ⟨k.1, fun l => ?_⟩
  refine Met.ofW (cc := μ.2.1) (maxL := μ.2.2.1) (ret := μ.2.2.2) (ws' := pm_gw) hy rfl ?_
  intro p e s m args below meth c s₁ Bd hml hv
  obtain ⟨rfl, hK, hR⟩ := hv
  have hts : ∀ w ∈ pm_ws μ, w.before as.toArray s = true := atoms_spec (ws := pm_ws μ) Bd.pre
  have hown : s.vm.findClass μ.1.cls = some m.cls := findClass_of_methodNamed Bd.named
  have hname : meth.name = μ.1.name := (name_of_methodNamed Bd.named Bd.method).1
  have hl := pm_L.entry as hlen
  rw [lg_entry_eq]
  generalize (lg_sl as ++ List.replicate (μ.2.2.1 - (lg_sl as).length) Slot.unset).toArray = lsA at hl ⊢
  have hx := Bd.exec
  have hb := Bd.bytes
  have hret := Bd.returns
  have hlocks := Bd.notSynchronized
  have key := k.2 p l e (headSpec (pm_ws μ) (pm_rm d (h1.1 - h.1) (h1.2.1 - h.2.1))).room s m as.toArray below meth c s.heap [] lsA h.1 h.2.1
    (MQ below (fun _ _ o t => o = .returned r ∧ pm_R B D t t.heap h1) as.toArray s (h1.1 - h.1) (h1.2.1 - h.2.1) (fun q => B ≤ q))
    ⟨hx, hb, hret, hml, hown, fun w hw => hts w (List.mem_cons_of_mem _ hw), hlocks, hname, hK, Nat.le_refl _, Nat.le_refl _⟩ hl hR (fun q hq => by cases hq) (Nat.le_refl _) (Nat.le_refl _) (Nat.le_refl _) (Nat.le_refl _) ?_
  · rw [Nat.sub_self, Nat.sub_self] at key
    exact key
  · intro H locs lsB pc hd hR1 hlo
    have hq : ∀ t : State, t.heap = H → s.WarmedH t.vm → (Outcome.returned r = .returned r ∧ pm_R B D t t.heap h1) := fun t ht hW => ⟨rfl, by rw [ht]; exact hR1.moved hW.alike⟩
    revert hd hret hr
    generalize hμ : μ.2.2.2 = ty
    intro hr hret hd
    match ty, r, hr with
    | none, none, _ => exact W.vret hx hb hret hq hlo hd hlocks
    | some .int, some (.int v), _ => exact W.iret (v := v) hx hb hret hq hlo hd hlocks
    | some .boolean, some (.int v), hr => exact W.zret (v := v) hx hb hret (pm_bool_nar hr) hq hlo hd hlocks
    | some .long, some (.long v), _ => exact W.lret (v := v) hx hb hret hq hlo hd hlocks
    | some (.object n), some .null, _ => exact W.aret (v := .null) hx hb hret (Or.inl ⟨n, rfl⟩) (Or.inl rfl) hq hlo hd hlocks
    | some (.object n), some (.ref a), _ => exact W.aret (v := .ref a) hx hb hret (Or.inl ⟨n, rfl⟩) (Or.inr ⟨a, rfl⟩) hq hlo hd hlocks
section PX
variable {B : Nat} {D : va_G} {d : Nat} {μ : pm_M} {pc : Nat} {ls : pm_Ls} {st : List Value} {h : pm_H} {r : Option Value} {h1 : pm_H}

theorem px_iconst {n : Int} {v : Int32} (hd : decode μ.2.1 pc = .ok (.iconst n, 1)) (hv : Int32.ofInt n = v) (kk : EX B D d μ (pc + 1) ls (.int v :: st) h r h1) : EX B D d μ pc ls (st) h r h1 := by
  refine ⟨kk.1, fun p l e R s m args below meth c H locs lsA n0 w0 Q cx hl hR hlo e1 e2 e3 e4 hq => ?_⟩
  exact lv_iconst cx.1 cx.2.1 hd hv (kk.2 p l e R s m args below meth c H locs lsA n0 w0 Q cx hl hR hlo e1 e2 e3 e4 hq)
theorem px_bipush {n : Int} {v : Int32} (hd : decode μ.2.1 pc = .ok (.bipush n, 2)) (hv : (Int8.ofInt n).toInt32 = v) (kk : EX B D d μ (pc + 2) ls (.int v :: st) h r h1) : EX B D d μ pc ls (st) h r h1 := by
  refine ⟨kk.1, fun p l e R s m args below meth c H locs lsA n0 w0 Q cx hl hR hlo e1 e2 e3 e4 hq => ?_⟩
  exact lv_bipush cx.1 cx.2.1 hd hv (kk.2 p l e R s m args below meth c H locs lsA n0 w0 Q cx hl hR hlo e1 e2 e3 e4 hq)
theorem px_sipush {n : Int} {v : Int32} (hd : decode μ.2.1 pc = .ok (.sipush n, 3)) (hv : (Int16.ofInt n).toInt32 = v) (kk : EX B D d μ (pc + 3) ls (.int v :: st) h r h1) : EX B D d μ pc ls (st) h r h1 := by
  refine ⟨kk.1, fun p l e R s m args below meth c H locs lsA n0 w0 Q cx hl hR hlo e1 e2 e3 e4 hq => ?_⟩
  exact lv_sipush cx.1 cx.2.1 hd hv (kk.2 p l e R s m args below meth c H locs lsA n0 w0 Q cx hl hR hlo e1 e2 e3 e4 hq)
theorem px_lconst {n : Fin 2} {v : Int64} (hd : decode μ.2.1 pc = .ok (.lconst n, 1)) (hv : Int64.ofNat (n : Nat) = v) (kk : EX B D d μ (pc + 1) ls (.long v :: st) h r h1) : EX B D d μ pc ls (st) h r h1 := by
  refine ⟨kk.1, fun p l e R s m args below meth c H locs lsA n0 w0 Q cx hl hR hlo e1 e2 e3 e4 hq => ?_⟩
  exact lv_lconst cx.1 cx.2.1 hd hv (kk.2 p l e R s m args below meth c H locs lsA n0 w0 Q cx hl hR hlo e1 e2 e3 e4 hq)
theorem px_ldc {i : Nat} {v : Int32} (hd : decode μ.2.1 pc = .ok (.ldc i, 2)) (hc : Cond.constant μ.1.cls i v ∈ pm_gw) (kk : EX B D d μ (pc + 2) ls (.int v :: st) h r h1) : EX B D d μ pc ls (st) h r h1 := by
  refine ⟨kk.1, fun p l e R s m args below meth c H locs lsA n0 w0 Q cx hl hR hlo e1 e2 e3 e4 hq => ?_⟩
  exact lv_ldc cx.1 cx.2.1 cx.2.2.2.2.1 (cx.2.2.2.2.2.1 _ hc) hd (kk.2 p l e R s m args below meth c H locs lsA n0 w0 Q cx hl hR hlo e1 e2 e3 e4 hq)
theorem px_ldc2 {i : Nat} {v : Int64} (hd : decode μ.2.1 pc = .ok (.ldc2_w i, 3)) (hc : Cond.constantLong μ.1.cls i v ∈ pm_gw) (kk : EX B D d μ (pc + 3) ls (.long v :: st) h r h1) : EX B D d μ pc ls (st) h r h1 := by
  refine ⟨kk.1, fun p l e R s m args below meth c H locs lsA n0 w0 Q cx hl hR hlo e1 e2 e3 e4 hq => ?_⟩
  exact lv_ldc2 cx.1 cx.2.1 cx.2.2.2.2.1 (cx.2.2.2.2.2.1 _ hc) hd (kk.2 p l e R s m args below meth c H locs lsA n0 w0 Q cx hl hR hlo e1 e2 e3 e4 hq)
theorem px_iload_n {k : Fin 4} {x : Int32} (hd : decode μ.2.1 pc = .ok (.iload_n k, 1)) (hv : ls[(k : Nat)]? = some (some (.int x))) (kk : EX B D d μ (pc + 1) ls (.int x :: st) h r h1) : EX B D d μ pc ls (st) h r h1 := by
  refine ⟨kk.1, fun p l e R s m args below meth c H locs lsA n0 w0 Q cx hl hR hlo e1 e2 e3 e4 hq => ?_⟩
  exact lv_iload_n cx.1 cx.2.1 hd rfl (hl.2.2.2 _ _ hv) (kk.2 p l e R s m args below meth c H locs lsA n0 w0 Q cx hl hR hlo e1 e2 e3 e4 hq)
theorem px_iload {i : Nat} {x : Int32} (hd : decode μ.2.1 pc = .ok (.iload i, 2)) (hv : ls[i]? = some (some (.int x))) (kk : EX B D d μ (pc + 2) ls (.int x :: st) h r h1) : EX B D d μ pc ls (st) h r h1 := by
  refine ⟨kk.1, fun p l e R s m args below meth c H locs lsA n0 w0 Q cx hl hR hlo e1 e2 e3 e4 hq => ?_⟩
  exact lv_iload cx.1 cx.2.1 hd (hl.2.2.2 _ _ hv) (kk.2 p l e R s m args below meth c H locs lsA n0 w0 Q cx hl hR hlo e1 e2 e3 e4 hq)
theorem px_lload_n {k : Fin 4} {x : Int64} (hd : decode μ.2.1 pc = .ok (.lload_n k, 1)) (hv : ls[(k : Nat)]? = some (some (.long x))) (kk : EX B D d μ (pc + 1) ls (.long x :: st) h r h1) : EX B D d μ pc ls (st) h r h1 := by
  refine ⟨kk.1, fun p l e R s m args below meth c H locs lsA n0 w0 Q cx hl hR hlo e1 e2 e3 e4 hq => ?_⟩
  exact lv_lload_n cx.1 cx.2.1 hd rfl (hl.2.2.2 _ _ hv) (kk.2 p l e R s m args below meth c H locs lsA n0 w0 Q cx hl hR hlo e1 e2 e3 e4 hq)
theorem px_lload {i : Nat} {x : Int64} (hd : decode μ.2.1 pc = .ok (.lload i, 2)) (hv : ls[i]? = some (some (.long x))) (kk : EX B D d μ (pc + 2) ls (.long x :: st) h r h1) : EX B D d μ pc ls (st) h r h1 := by
  refine ⟨kk.1, fun p l e R s m args below meth c H locs lsA n0 w0 Q cx hl hR hlo e1 e2 e3 e4 hq => ?_⟩
  exact lv_lload cx.1 cx.2.1 hd (hl.2.2.2 _ _ hv) (kk.2 p l e R s m args below meth c H locs lsA n0 w0 Q cx hl hR hlo e1 e2 e3 e4 hq)
theorem px_aload_n {k : Fin 4} {x : Nat} (hd : decode μ.2.1 pc = .ok (.aload_n k, 1)) (hv : ls[(k : Nat)]? = some (some (.ref x))) (kk : EX B D d μ (pc + 1) ls (.ref x :: st) h r h1) : EX B D d μ pc ls (st) h r h1 := by
  refine ⟨kk.1, fun p l e R s m args below meth c H locs lsA n0 w0 Q cx hl hR hlo e1 e2 e3 e4 hq => ?_⟩
  exact lv_aload_n cx.1 cx.2.1 hd rfl (hl.2.2.2 _ _ hv) (kk.2 p l e R s m args below meth c H locs lsA n0 w0 Q cx hl hR hlo e1 e2 e3 e4 hq)
theorem px_aload {i : Nat} {x : Nat} (hd : decode μ.2.1 pc = .ok (.aload i, 2)) (hv : ls[i]? = some (some (.ref x))) (kk : EX B D d μ (pc + 2) ls (.ref x :: st) h r h1) : EX B D d μ pc ls (st) h r h1 := by
  refine ⟨kk.1, fun p l e R s m args below meth c H locs lsA n0 w0 Q cx hl hR hlo e1 e2 e3 e4 hq => ?_⟩
  exact lv_aload cx.1 cx.2.1 hd (hl.2.2.2 _ _ hv) (kk.2 p l e R s m args below meth c H locs lsA n0 w0 Q cx hl hR hlo e1 e2 e3 e4 hq)
theorem px_aload_nN {k : Fin 4} (hd : decode μ.2.1 pc = .ok (.aload_n k, 1)) (hv : ls[(k : Nat)]? = some (some .null)) (kk : EX B D d μ (pc + 1) ls (.null :: st) h r h1) : EX B D d μ pc ls (st) h r h1 := by
  refine ⟨kk.1, fun p l e R s m args below meth c H locs lsA n0 w0 Q cx hl hR hlo e1 e2 e3 e4 hq => ?_⟩
  exact lv_aload_nN cx.1 cx.2.1 hd rfl (hl.2.2.2 _ _ hv) (kk.2 p l e R s m args below meth c H locs lsA n0 w0 Q cx hl hR hlo e1 e2 e3 e4 hq)
theorem px_aloadN {i : Nat} (hd : decode μ.2.1 pc = .ok (.aload i, 2)) (hv : ls[i]? = some (some .null)) (kk : EX B D d μ (pc + 2) ls (.null :: st) h r h1) : EX B D d μ pc ls (st) h r h1 := by
  refine ⟨kk.1, fun p l e R s m args below meth c H locs lsA n0 w0 Q cx hl hR hlo e1 e2 e3 e4 hq => ?_⟩
  exact lv_aloadN cx.1 cx.2.1 hd (hl.2.2.2 _ _ hv) (kk.2 p l e R s m args below meth c H locs lsA n0 w0 Q cx hl hR hlo e1 e2 e3 e4 hq)
theorem px_null  (hd : decode μ.2.1 pc = .ok (.aconst_null, 1)) (kk : EX B D d μ (pc + 1) ls (.null :: st) h r h1) : EX B D d μ pc ls (st) h r h1 := by
  refine ⟨kk.1, fun p l e R s m args below meth c H locs lsA n0 w0 Q cx hl hR hlo e1 e2 e3 e4 hq => ?_⟩
  exact lv_null cx.1 cx.2.1 hd (kk.2 p l e R s m args below meth c H locs lsA n0 w0 Q cx hl hR hlo e1 e2 e3 e4 hq)
theorem px_iadd {x y : Int32} (hd : decode μ.2.1 pc = .ok (.iadd, 1)) (kk : EX B D d μ (pc + 1) ls (.int (x + y) :: st) h r h1) : EX B D d μ pc ls (.int y :: .int x :: st) h r h1 := by
  refine ⟨kk.1, fun p l e R s m args below meth c H locs lsA n0 w0 Q cx hl hR hlo e1 e2 e3 e4 hq => ?_⟩
  exact lv_iadd cx.1 cx.2.1 hd (kk.2 p l e R s m args below meth c H locs lsA n0 w0 Q cx hl hR hlo e1 e2 e3 e4 hq)
theorem px_isub {x y : Int32} (hd : decode μ.2.1 pc = .ok (.isub, 1)) (kk : EX B D d μ (pc + 1) ls (.int (x - y) :: st) h r h1) : EX B D d μ pc ls (.int y :: .int x :: st) h r h1 := by
  refine ⟨kk.1, fun p l e R s m args below meth c H locs lsA n0 w0 Q cx hl hR hlo e1 e2 e3 e4 hq => ?_⟩
  exact lv_isub cx.1 cx.2.1 hd (kk.2 p l e R s m args below meth c H locs lsA n0 w0 Q cx hl hR hlo e1 e2 e3 e4 hq)
theorem px_imul {x y : Int32} (hd : decode μ.2.1 pc = .ok (.imul, 1)) (kk : EX B D d μ (pc + 1) ls (.int (x * y) :: st) h r h1) : EX B D d μ pc ls (.int y :: .int x :: st) h r h1 := by
  refine ⟨kk.1, fun p l e R s m args below meth c H locs lsA n0 w0 Q cx hl hR hlo e1 e2 e3 e4 hq => ?_⟩
  exact lv_imul cx.1 cx.2.1 hd (kk.2 p l e R s m args below meth c H locs lsA n0 w0 Q cx hl hR hlo e1 e2 e3 e4 hq)
theorem px_iand {x y : Int32} (hd : decode μ.2.1 pc = .ok (.iand, 1)) (kk : EX B D d μ (pc + 1) ls (.int (x &&& y) :: st) h r h1) : EX B D d μ pc ls (.int y :: .int x :: st) h r h1 := by
  refine ⟨kk.1, fun p l e R s m args below meth c H locs lsA n0 w0 Q cx hl hR hlo e1 e2 e3 e4 hq => ?_⟩
  exact lv_iand cx.1 cx.2.1 hd (kk.2 p l e R s m args below meth c H locs lsA n0 w0 Q cx hl hR hlo e1 e2 e3 e4 hq)
theorem px_ior {x y : Int32} (hd : decode μ.2.1 pc = .ok (.ior, 1)) (kk : EX B D d μ (pc + 1) ls (.int (x ||| y) :: st) h r h1) : EX B D d μ pc ls (.int y :: .int x :: st) h r h1 := by
  refine ⟨kk.1, fun p l e R s m args below meth c H locs lsA n0 w0 Q cx hl hR hlo e1 e2 e3 e4 hq => ?_⟩
  exact lv_ior cx.1 cx.2.1 hd (kk.2 p l e R s m args below meth c H locs lsA n0 w0 Q cx hl hR hlo e1 e2 e3 e4 hq)
theorem px_ixor {x y : Int32} (hd : decode μ.2.1 pc = .ok (.ixor, 1)) (kk : EX B D d μ (pc + 1) ls (.int (x ^^^ y) :: st) h r h1) : EX B D d μ pc ls (.int y :: .int x :: st) h r h1 := by
  refine ⟨kk.1, fun p l e R s m args below meth c H locs lsA n0 w0 Q cx hl hR hlo e1 e2 e3 e4 hq => ?_⟩
  exact lv_ixor cx.1 cx.2.1 hd (kk.2 p l e R s m args below meth c H locs lsA n0 w0 Q cx hl hR hlo e1 e2 e3 e4 hq)
theorem px_ishl {x y : Int32} (hd : decode μ.2.1 pc = .ok (.ishl, 1)) (kk : EX B D d μ (pc + 1) ls (.int (x <<< (y &&& 31)) :: st) h r h1) : EX B D d μ pc ls (.int y :: .int x :: st) h r h1 := by
  refine ⟨kk.1, fun p l e R s m args below meth c H locs lsA n0 w0 Q cx hl hR hlo e1 e2 e3 e4 hq => ?_⟩
  exact lv_ishl cx.1 cx.2.1 hd (kk.2 p l e R s m args below meth c H locs lsA n0 w0 Q cx hl hR hlo e1 e2 e3 e4 hq)
theorem px_ishr {x y : Int32} (hd : decode μ.2.1 pc = .ok (.ishr, 1)) (kk : EX B D d μ (pc + 1) ls (.int (x >>> (y &&& 31)) :: st) h r h1) : EX B D d μ pc ls (.int y :: .int x :: st) h r h1 := by
  refine ⟨kk.1, fun p l e R s m args below meth c H locs lsA n0 w0 Q cx hl hR hlo e1 e2 e3 e4 hq => ?_⟩
  exact lv_ishr cx.1 cx.2.1 hd (kk.2 p l e R s m args below meth c H locs lsA n0 w0 Q cx hl hR hlo e1 e2 e3 e4 hq)
theorem px_idiv {x y : Int32} (hd : decode μ.2.1 pc = .ok (.idiv, 1)) (hne : ¬ y = 0) (kk : EX B D d μ (pc + 1) ls (.int (x / y) :: st) h r h1) : EX B D d μ pc ls (.int y :: .int x :: st) h r h1 := by
  refine ⟨kk.1, fun p l e R s m args below meth c H locs lsA n0 w0 Q cx hl hR hlo e1 e2 e3 e4 hq => ?_⟩
  exact lv_idiv cx.1 cx.2.1 hd hne (kk.2 p l e R s m args below meth c H locs lsA n0 w0 Q cx hl hR hlo e1 e2 e3 e4 hq)
theorem px_irem {x y : Int32} (hd : decode μ.2.1 pc = .ok (.irem, 1)) (hne : ¬ y = 0) (kk : EX B D d μ (pc + 1) ls (.int (x - x / y * y) :: st) h r h1) : EX B D d μ pc ls (.int y :: .int x :: st) h r h1 := by
  refine ⟨kk.1, fun p l e R s m args below meth c H locs lsA n0 w0 Q cx hl hR hlo e1 e2 e3 e4 hq => ?_⟩
  exact lv_irem cx.1 cx.2.1 hd hne (kk.2 p l e R s m args below meth c H locs lsA n0 w0 Q cx hl hR hlo e1 e2 e3 e4 hq)
theorem px_ladd {x y : Int64} (hd : decode μ.2.1 pc = .ok (.ladd, 1)) (kk : EX B D d μ (pc + 1) ls (.long (x + y) :: st) h r h1) : EX B D d μ pc ls (.long y :: .long x :: st) h r h1 := by
  refine ⟨kk.1, fun p l e R s m args below meth c H locs lsA n0 w0 Q cx hl hR hlo e1 e2 e3 e4 hq => ?_⟩
  exact lv_ladd cx.1 cx.2.1 hd (kk.2 p l e R s m args below meth c H locs lsA n0 w0 Q cx hl hR hlo e1 e2 e3 e4 hq)
theorem px_lsub {x y : Int64} (hd : decode μ.2.1 pc = .ok (.lsub, 1)) (kk : EX B D d μ (pc + 1) ls (.long (x - y) :: st) h r h1) : EX B D d μ pc ls (.long y :: .long x :: st) h r h1 := by
  refine ⟨kk.1, fun p l e R s m args below meth c H locs lsA n0 w0 Q cx hl hR hlo e1 e2 e3 e4 hq => ?_⟩
  exact lv_lsub cx.1 cx.2.1 hd (kk.2 p l e R s m args below meth c H locs lsA n0 w0 Q cx hl hR hlo e1 e2 e3 e4 hq)
theorem px_lmul {x y : Int64} (hd : decode μ.2.1 pc = .ok (.lmul, 1)) (kk : EX B D d μ (pc + 1) ls (.long (x * y) :: st) h r h1) : EX B D d μ pc ls (.long y :: .long x :: st) h r h1 := by
  refine ⟨kk.1, fun p l e R s m args below meth c H locs lsA n0 w0 Q cx hl hR hlo e1 e2 e3 e4 hq => ?_⟩
  exact lv_lmul cx.1 cx.2.1 hd (kk.2 p l e R s m args below meth c H locs lsA n0 w0 Q cx hl hR hlo e1 e2 e3 e4 hq)
theorem px_land {x y : Int64} (hd : decode μ.2.1 pc = .ok (.land, 1)) (kk : EX B D d μ (pc + 1) ls (.long (x &&& y) :: st) h r h1) : EX B D d μ pc ls (.long y :: .long x :: st) h r h1 := by
  refine ⟨kk.1, fun p l e R s m args below meth c H locs lsA n0 w0 Q cx hl hR hlo e1 e2 e3 e4 hq => ?_⟩
  exact lv_land cx.1 cx.2.1 hd (kk.2 p l e R s m args below meth c H locs lsA n0 w0 Q cx hl hR hlo e1 e2 e3 e4 hq)
theorem px_lor {x y : Int64} (hd : decode μ.2.1 pc = .ok (.lor, 1)) (kk : EX B D d μ (pc + 1) ls (.long (x ||| y) :: st) h r h1) : EX B D d μ pc ls (.long y :: .long x :: st) h r h1 := by
  refine ⟨kk.1, fun p l e R s m args below meth c H locs lsA n0 w0 Q cx hl hR hlo e1 e2 e3 e4 hq => ?_⟩
  exact lv_lor cx.1 cx.2.1 hd (kk.2 p l e R s m args below meth c H locs lsA n0 w0 Q cx hl hR hlo e1 e2 e3 e4 hq)
theorem px_ldiv {x y : Int64} (hd : decode μ.2.1 pc = .ok (.ldiv, 1)) (hne : ¬ y = 0) (kk : EX B D d μ (pc + 1) ls (.long (x / y) :: st) h r h1) : EX B D d μ pc ls (.long y :: .long x :: st) h r h1 := by
  refine ⟨kk.1, fun p l e R s m args below meth c H locs lsA n0 w0 Q cx hl hR hlo e1 e2 e3 e4 hq => ?_⟩
  exact lv_ldiv cx.1 cx.2.1 hd hne (kk.2 p l e R s m args below meth c H locs lsA n0 w0 Q cx hl hR hlo e1 e2 e3 e4 hq)
theorem px_lrem {x y : Int64} (hd : decode μ.2.1 pc = .ok (.lrem, 1)) (hne : ¬ y = 0) (kk : EX B D d μ (pc + 1) ls (.long (x - x / y * y) :: st) h r h1) : EX B D d μ pc ls (.long y :: .long x :: st) h r h1 := by
  refine ⟨kk.1, fun p l e R s m args below meth c H locs lsA n0 w0 Q cx hl hR hlo e1 e2 e3 e4 hq => ?_⟩
  exact lv_lrem cx.1 cx.2.1 hd hne (kk.2 p l e R s m args below meth c H locs lsA n0 w0 Q cx hl hR hlo e1 e2 e3 e4 hq)
theorem px_lshl {x : Int64} {y : Int32} (hd : decode μ.2.1 pc = .ok (.lshl, 1)) (kk : EX B D d μ (pc + 1) ls (.long (x <<< (y.toInt64 &&& 63)) :: st) h r h1) : EX B D d μ pc ls (.int y :: .long x :: st) h r h1 := by
  refine ⟨kk.1, fun p l e R s m args below meth c H locs lsA n0 w0 Q cx hl hR hlo e1 e2 e3 e4 hq => ?_⟩
  exact lv_lshl cx.1 cx.2.1 hd rfl (kk.2 p l e R s m args below meth c H locs lsA n0 w0 Q cx hl hR hlo e1 e2 e3 e4 hq)
theorem px_i2l {x : Int32} (hd : decode μ.2.1 pc = .ok (.i2l, 1)) (kk : EX B D d μ (pc + 1) ls (.long x.toInt64 :: st) h r h1) : EX B D d μ pc ls (.int x :: st) h r h1 := by
  refine ⟨kk.1, fun p l e R s m args below meth c H locs lsA n0 w0 Q cx hl hR hlo e1 e2 e3 e4 hq => ?_⟩
  exact lv_i2l cx.1 cx.2.1 hd rfl (kk.2 p l e R s m args below meth c H locs lsA n0 w0 Q cx hl hR hlo e1 e2 e3 e4 hq)
theorem px_l2i {x : Int64} (hd : decode μ.2.1 pc = .ok (.l2i, 1)) (kk : EX B D d μ (pc + 1) ls (.int x.toInt32 :: st) h r h1) : EX B D d μ pc ls (.long x :: st) h r h1 := by
  refine ⟨kk.1, fun p l e R s m args below meth c H locs lsA n0 w0 Q cx hl hR hlo e1 e2 e3 e4 hq => ?_⟩
  exact lv_l2i cx.1 cx.2.1 hd rfl (kk.2 p l e R s m args below meth c H locs lsA n0 w0 Q cx hl hR hlo e1 e2 e3 e4 hq)
theorem px_lcmp {x y : Int64} (hd : decode μ.2.1 pc = .ok (.lcmp, 1)) (kk : EX B D d μ (pc + 1) ls (.int (lg_cmp x y) :: st) h r h1) : EX B D d μ pc ls (.long y :: .long x :: st) h r h1 := by
  refine ⟨kk.1, fun p l e R s m args below meth c H locs lsA n0 w0 Q cx hl hR hlo e1 e2 e3 e4 hq => ?_⟩
  exact W.lcmp cx.1 cx.2.1 hd (kk.2 p l e R s m args below meth c H locs lsA n0 w0 Q cx hl hR hlo e1 e2 e3 e4 hq)
theorem px_dup {v : Value} (hd : decode μ.2.1 pc = .ok (.dup, 1)) (hc : v.category = 1) (kk : EX B D d μ (pc + 1) ls (v :: v :: st) h r h1) : EX B D d μ pc ls (v :: st) h r h1 := by
  refine ⟨kk.1, fun p l e R s m args below meth c H locs lsA n0 w0 Q cx hl hR hlo e1 e2 e3 e4 hq => ?_⟩
  exact lv_dup cx.1 cx.2.1 hd hc (kk.2 p l e R s m args below meth c H locs lsA n0 w0 Q cx hl hR hlo e1 e2 e3 e4 hq)
theorem px_pop {v : Value} (hd : decode μ.2.1 pc = .ok (.pop, 1)) (hc : v.category = 1) (kk : EX B D d μ (pc + 1) ls (st) h r h1) : EX B D d μ pc ls (v :: st) h r h1 := by
  refine ⟨kk.1, fun p l e R s m args below meth c H locs lsA n0 w0 Q cx hl hR hlo e1 e2 e3 e4 hq => ?_⟩
  exact lv_pop cx.1 cx.2.1 hd hc (kk.2 p l e R s m args below meth c H locs lsA n0 w0 Q cx hl hR hlo e1 e2 e3 e4 hq)
theorem px_if_eq {x : Int32} {off : Int} {tgt : Nat} (hd : decode μ.2.1 pc = .ok (.ifCond .eq off, 3)) (ht : (pc : Int) + off = (tgt : Int)) (kt : x = 0 → EX B D d μ tgt ls st h r h1) (kf : ¬ x = 0 → EX B D d μ (pc + 3) ls st h r h1) : EX B D d μ pc ls (.int x :: st) h r h1 := by
  refine ⟨?_, fun p l e R s m args below meth c H locs lsA n0 w0 Q cx hl hR hlo e1 e2 e3 e4 hq => ?_⟩
  · by_cases hc : x = 0
    · exact (kt hc).1
    · exact (kf hc).1
  · exact lv_if_eq cx.1 cx.2.1 hd ht (fun hc => (kt hc).2 p l e R s m args below meth c H locs lsA n0 w0 Q cx hl hR hlo e1 e2 e3 e4 hq) (fun hc => (kf hc).2 p l e R s m args below meth c H locs lsA n0 w0 Q cx hl hR hlo e1 e2 e3 e4 hq)
theorem px_icmp_eq {x y : Int32} {off : Int} {tgt : Nat} (hd : decode μ.2.1 pc = .ok (.if_icmp .eq off, 3)) (ht : (pc : Int) + off = (tgt : Int)) (kt : x = y → EX B D d μ tgt ls st h r h1) (kf : ¬ x = y → EX B D d μ (pc + 3) ls st h r h1) : EX B D d μ pc ls (.int y :: .int x :: st) h r h1 := by
  refine ⟨?_, fun p l e R s m args below meth c H locs lsA n0 w0 Q cx hl hR hlo e1 e2 e3 e4 hq => ?_⟩
  · by_cases hc : x = y
    · exact (kt hc).1
    · exact (kf hc).1
  · exact lv_icmp_eq cx.1 cx.2.1 hd ht (fun hc => (kt hc).2 p l e R s m args below meth c H locs lsA n0 w0 Q cx hl hR hlo e1 e2 e3 e4 hq) (fun hc => (kf hc).2 p l e R s m args below meth c H locs lsA n0 w0 Q cx hl hR hlo e1 e2 e3 e4 hq)
theorem px_if_ne {x : Int32} {off : Int} {tgt : Nat} (hd : decode μ.2.1 pc = .ok (.ifCond .ne off, 3)) (ht : (pc : Int) + off = (tgt : Int)) (kt : ¬ x = 0 → EX B D d μ tgt ls st h r h1) (kf : x = 0 → EX B D d μ (pc + 3) ls st h r h1) : EX B D d μ pc ls (.int x :: st) h r h1 := by
  refine ⟨?_, fun p l e R s m args below meth c H locs lsA n0 w0 Q cx hl hR hlo e1 e2 e3 e4 hq => ?_⟩
  · by_cases hc : x = 0
    · exact (kf hc).1
    · exact (kt hc).1
  · exact lv_if_ne cx.1 cx.2.1 hd ht (fun hc => (kt hc).2 p l e R s m args below meth c H locs lsA n0 w0 Q cx hl hR hlo e1 e2 e3 e4 hq) (fun hc => (kf hc).2 p l e R s m args below meth c H locs lsA n0 w0 Q cx hl hR hlo e1 e2 e3 e4 hq)
theorem px_icmp_ne {x y : Int32} {off : Int} {tgt : Nat} (hd : decode μ.2.1 pc = .ok (.if_icmp .ne off, 3)) (ht : (pc : Int) + off = (tgt : Int)) (kt : ¬ x = y → EX B D d μ tgt ls st h r h1) (kf : x = y → EX B D d μ (pc + 3) ls st h r h1) : EX B D d μ pc ls (.int y :: .int x :: st) h r h1 := by
  refine ⟨?_, fun p l e R s m args below meth c H locs lsA n0 w0 Q cx hl hR hlo e1 e2 e3 e4 hq => ?_⟩
  · by_cases hc : x = y
    · exact (kf hc).1
    · exact (kt hc).1
  · exact lv_icmp_ne cx.1 cx.2.1 hd ht (fun hc => (kt hc).2 p l e R s m args below meth c H locs lsA n0 w0 Q cx hl hR hlo e1 e2 e3 e4 hq) (fun hc => (kf hc).2 p l e R s m args below meth c H locs lsA n0 w0 Q cx hl hR hlo e1 e2 e3 e4 hq)
theorem px_if_lt {x : Int32} {off : Int} {tgt : Nat} (hd : decode μ.2.1 pc = .ok (.ifCond .lt off, 3)) (ht : (pc : Int) + off = (tgt : Int)) (kt : x < 0 → EX B D d μ tgt ls st h r h1) (kf : ¬ x < 0 → EX B D d μ (pc + 3) ls st h r h1) : EX B D d μ pc ls (.int x :: st) h r h1 := by
  refine ⟨?_, fun p l e R s m args below meth c H locs lsA n0 w0 Q cx hl hR hlo e1 e2 e3 e4 hq => ?_⟩
  · by_cases hc : x < 0
    · exact (kt hc).1
    · exact (kf hc).1
  · exact lv_if_lt cx.1 cx.2.1 hd ht (fun hc => (kt hc).2 p l e R s m args below meth c H locs lsA n0 w0 Q cx hl hR hlo e1 e2 e3 e4 hq) (fun hc => (kf hc).2 p l e R s m args below meth c H locs lsA n0 w0 Q cx hl hR hlo e1 e2 e3 e4 hq)
theorem px_icmp_lt {x y : Int32} {off : Int} {tgt : Nat} (hd : decode μ.2.1 pc = .ok (.if_icmp .lt off, 3)) (ht : (pc : Int) + off = (tgt : Int)) (kt : x < y → EX B D d μ tgt ls st h r h1) (kf : ¬ x < y → EX B D d μ (pc + 3) ls st h r h1) : EX B D d μ pc ls (.int y :: .int x :: st) h r h1 := by
  refine ⟨?_, fun p l e R s m args below meth c H locs lsA n0 w0 Q cx hl hR hlo e1 e2 e3 e4 hq => ?_⟩
  · by_cases hc : x < y
    · exact (kt hc).1
    · exact (kf hc).1
  · exact lv_icmp_lt cx.1 cx.2.1 hd ht (fun hc => (kt hc).2 p l e R s m args below meth c H locs lsA n0 w0 Q cx hl hR hlo e1 e2 e3 e4 hq) (fun hc => (kf hc).2 p l e R s m args below meth c H locs lsA n0 w0 Q cx hl hR hlo e1 e2 e3 e4 hq)
theorem px_if_ge {x : Int32} {off : Int} {tgt : Nat} (hd : decode μ.2.1 pc = .ok (.ifCond .ge off, 3)) (ht : (pc : Int) + off = (tgt : Int)) (kt : 0 ≤ x → EX B D d μ tgt ls st h r h1) (kf : ¬ 0 ≤ x → EX B D d μ (pc + 3) ls st h r h1) : EX B D d μ pc ls (.int x :: st) h r h1 := by
  refine ⟨?_, fun p l e R s m args below meth c H locs lsA n0 w0 Q cx hl hR hlo e1 e2 e3 e4 hq => ?_⟩
  · by_cases hc : 0 ≤ x
    · exact (kt hc).1
    · exact (kf hc).1
  · exact lv_if_ge cx.1 cx.2.1 hd ht (fun hc => (kt hc).2 p l e R s m args below meth c H locs lsA n0 w0 Q cx hl hR hlo e1 e2 e3 e4 hq) (fun hc => (kf hc).2 p l e R s m args below meth c H locs lsA n0 w0 Q cx hl hR hlo e1 e2 e3 e4 hq)
theorem px_icmp_ge {x y : Int32} {off : Int} {tgt : Nat} (hd : decode μ.2.1 pc = .ok (.if_icmp .ge off, 3)) (ht : (pc : Int) + off = (tgt : Int)) (kt : y ≤ x → EX B D d μ tgt ls st h r h1) (kf : ¬ y ≤ x → EX B D d μ (pc + 3) ls st h r h1) : EX B D d μ pc ls (.int y :: .int x :: st) h r h1 := by
  refine ⟨?_, fun p l e R s m args below meth c H locs lsA n0 w0 Q cx hl hR hlo e1 e2 e3 e4 hq => ?_⟩
  · by_cases hc : y ≤ x
    · exact (kt hc).1
    · exact (kf hc).1
  · exact lv_icmp_ge cx.1 cx.2.1 hd ht (fun hc => (kt hc).2 p l e R s m args below meth c H locs lsA n0 w0 Q cx hl hR hlo e1 e2 e3 e4 hq) (fun hc => (kf hc).2 p l e R s m args below meth c H locs lsA n0 w0 Q cx hl hR hlo e1 e2 e3 e4 hq)
theorem px_if_gt {x : Int32} {off : Int} {tgt : Nat} (hd : decode μ.2.1 pc = .ok (.ifCond .gt off, 3)) (ht : (pc : Int) + off = (tgt : Int)) (kt : 0 < x → EX B D d μ tgt ls st h r h1) (kf : ¬ 0 < x → EX B D d μ (pc + 3) ls st h r h1) : EX B D d μ pc ls (.int x :: st) h r h1 := by
  refine ⟨?_, fun p l e R s m args below meth c H locs lsA n0 w0 Q cx hl hR hlo e1 e2 e3 e4 hq => ?_⟩
  · by_cases hc : 0 < x
    · exact (kt hc).1
    · exact (kf hc).1
  · exact lv_if_gt cx.1 cx.2.1 hd ht (fun hc => (kt hc).2 p l e R s m args below meth c H locs lsA n0 w0 Q cx hl hR hlo e1 e2 e3 e4 hq) (fun hc => (kf hc).2 p l e R s m args below meth c H locs lsA n0 w0 Q cx hl hR hlo e1 e2 e3 e4 hq)
theorem px_icmp_gt {x y : Int32} {off : Int} {tgt : Nat} (hd : decode μ.2.1 pc = .ok (.if_icmp .gt off, 3)) (ht : (pc : Int) + off = (tgt : Int)) (kt : y < x → EX B D d μ tgt ls st h r h1) (kf : ¬ y < x → EX B D d μ (pc + 3) ls st h r h1) : EX B D d μ pc ls (.int y :: .int x :: st) h r h1 := by
  refine ⟨?_, fun p l e R s m args below meth c H locs lsA n0 w0 Q cx hl hR hlo e1 e2 e3 e4 hq => ?_⟩
  · by_cases hc : y < x
    · exact (kt hc).1
    · exact (kf hc).1
  · exact lv_icmp_gt cx.1 cx.2.1 hd ht (fun hc => (kt hc).2 p l e R s m args below meth c H locs lsA n0 w0 Q cx hl hR hlo e1 e2 e3 e4 hq) (fun hc => (kf hc).2 p l e R s m args below meth c H locs lsA n0 w0 Q cx hl hR hlo e1 e2 e3 e4 hq)
theorem px_if_le {x : Int32} {off : Int} {tgt : Nat} (hd : decode μ.2.1 pc = .ok (.ifCond .le off, 3)) (ht : (pc : Int) + off = (tgt : Int)) (kt : x ≤ 0 → EX B D d μ tgt ls st h r h1) (kf : ¬ x ≤ 0 → EX B D d μ (pc + 3) ls st h r h1) : EX B D d μ pc ls (.int x :: st) h r h1 := by
  refine ⟨?_, fun p l e R s m args below meth c H locs lsA n0 w0 Q cx hl hR hlo e1 e2 e3 e4 hq => ?_⟩
  · by_cases hc : x ≤ 0
    · exact (kt hc).1
    · exact (kf hc).1
  · exact lv_if_le cx.1 cx.2.1 hd ht (fun hc => (kt hc).2 p l e R s m args below meth c H locs lsA n0 w0 Q cx hl hR hlo e1 e2 e3 e4 hq) (fun hc => (kf hc).2 p l e R s m args below meth c H locs lsA n0 w0 Q cx hl hR hlo e1 e2 e3 e4 hq)
theorem px_icmp_le {x y : Int32} {off : Int} {tgt : Nat} (hd : decode μ.2.1 pc = .ok (.if_icmp .le off, 3)) (ht : (pc : Int) + off = (tgt : Int)) (kt : x ≤ y → EX B D d μ tgt ls st h r h1) (kf : ¬ x ≤ y → EX B D d μ (pc + 3) ls st h r h1) : EX B D d μ pc ls (.int y :: .int x :: st) h r h1 := by
  refine ⟨?_, fun p l e R s m args below meth c H locs lsA n0 w0 Q cx hl hR hlo e1 e2 e3 e4 hq => ?_⟩
  · by_cases hc : x ≤ y
    · exact (kt hc).1
    · exact (kf hc).1
  · exact lv_icmp_le cx.1 cx.2.1 hd ht (fun hc => (kt hc).2 p l e R s m args below meth c H locs lsA n0 w0 Q cx hl hR hlo e1 e2 e3 e4 hq) (fun hc => (kf hc).2 p l e R s m args below meth c H locs lsA n0 w0 Q cx hl hR hlo e1 e2 e3 e4 hq)
theorem px_goto  {off : Int} {tgt : Nat} (hd : decode μ.2.1 pc = .ok (.goto off, 3)) (ht : (pc : Int) + off = (tgt : Int)) (kk : EX B D d μ tgt ls st h r h1) : EX B D d μ pc ls (st) h r h1 := by
  refine ⟨kk.1, fun p l e R s m args below meth c H locs lsA n0 w0 Q cx hl hR hlo e1 e2 e3 e4 hq => ?_⟩
  exact lv_goto cx.1 cx.2.1 hd ht (kk.2 p l e R s m args below meth c H locs lsA n0 w0 Q cx hl hR hlo e1 e2 e3 e4 hq)
theorem px_ifnull_t  {off : Int} {tgt : Nat} (hd : decode μ.2.1 pc = .ok (.ifnull off, 3)) (ht : (pc : Int) + off = (tgt : Int)) (kk : EX B D d μ tgt ls st h r h1) : EX B D d μ pc ls (.null :: st) h r h1 := by
  refine ⟨kk.1, fun p l e R s m args below meth c H locs lsA n0 w0 Q cx hl hR hlo e1 e2 e3 e4 hq => ?_⟩
  exact lv_ifnullN cx.1 cx.2.1 hd ht (kk.2 p l e R s m args below meth c H locs lsA n0 w0 Q cx hl hR hlo e1 e2 e3 e4 hq)
theorem px_ifnull_f {a : Nat} {off : Int} (hd : decode μ.2.1 pc = .ok (.ifnull off, 3)) (kk : EX B D d μ (pc + 3) ls st h r h1) : EX B D d μ pc ls (.ref a :: st) h r h1 := by
  refine ⟨kk.1, fun p l e R s m args below meth c H locs lsA n0 w0 Q cx hl hR hlo e1 e2 e3 e4 hq => ?_⟩
  exact lv_ifnull cx.1 cx.2.1 hd (kk.2 p l e R s m args below meth c H locs lsA n0 w0 Q cx hl hR hlo e1 e2 e3 e4 hq)
theorem px_ifnonnull_t {a : Nat} {off : Int} {tgt : Nat} (hd : decode μ.2.1 pc = .ok (.ifnonnull off, 3)) (ht : (pc : Int) + off = (tgt : Int)) (kk : EX B D d μ tgt ls st h r h1) : EX B D d μ pc ls (.ref a :: st) h r h1 := by
  refine ⟨kk.1, fun p l e R s m args below meth c H locs lsA n0 w0 Q cx hl hR hlo e1 e2 e3 e4 hq => ?_⟩
  exact lv_ifnonnull cx.1 cx.2.1 hd ht (kk.2 p l e R s m args below meth c H locs lsA n0 w0 Q cx hl hR hlo e1 e2 e3 e4 hq)
theorem px_ifnonnull_f  {off : Int} (hd : decode μ.2.1 pc = .ok (.ifnonnull off, 3)) (kk : EX B D d μ (pc + 3) ls st h r h1) : EX B D d μ pc ls (.null :: st) h r h1 := by
  refine ⟨kk.1, fun p l e R s m args below meth c H locs lsA n0 w0 Q cx hl hR hlo e1 e2 e3 e4 hq => ?_⟩
  exact lv_ifnonnullN cx.1 cx.2.1 hd (kk.2 p l e R s m args below meth c H locs lsA n0 w0 Q cx hl hR hlo e1 e2 e3 e4 hq)
theorem px_tableOut {dflt lo hi : Int} {offs : Array Int} {len : Nat} {x : Int32} {tgt : Nat} (hd : decode μ.2.1 pc = .ok (.tableswitch dflt lo hi offs, len)) (hx : x.toInt < lo ∨ hi < x.toInt) (ht : (pc : Int) + dflt = (tgt : Int)) (kk : EX B D d μ tgt ls st h r h1) : EX B D d μ pc ls (.int x :: st) h r h1 := by
  refine ⟨kk.1, fun p l e R s m args below meth c H locs lsA n0 w0 Q cx hl hR hlo e1 e2 e3 e4 hq => ?_⟩
  exact lv_tableOut cx.1 cx.2.1 hd hx ht (kk.2 p l e R s m args below meth c H locs lsA n0 w0 Q cx hl hR hlo e1 e2 e3 e4 hq)
theorem px_tableIn {dflt lo hi : Int} {offs : Array Int} {len : Nat} {x : Int32} {off : Int} {tgt : Nat} (hd : decode μ.2.1 pc = .ok (.tableswitch dflt lo hi offs, len)) (hx1 : ¬ x.toInt < lo) (hx2 : ¬ hi < x.toInt) (ho : offs[(x.toInt - lo).toNat]? = some off) (ht : (pc : Int) + off = (tgt : Int)) (kk : EX B D d μ tgt ls st h r h1) : EX B D d μ pc ls (.int x :: st) h r h1 := by
  refine ⟨kk.1, fun p l e R s m args below meth c H locs lsA n0 w0 Q cx hl hR hlo e1 e2 e3 e4 hq => ?_⟩
  exact lv_tableIn cx.1 cx.2.1 hd hx1 hx2 ho ht (kk.2 p l e R s m args below meth c H locs lsA n0 w0 Q cx hl hR hlo e1 e2 e3 e4 hq)

theorem px_istore_n {k : Fin 4} {x : Int32} (hn : ∀ z, 0 < (k : Nat) → ls[(k : Nat) - 1]? = some z → pm_nl z = true) (hi : (k : Nat) < ls.length) (hd : decode μ.2.1 pc = .ok (.istore_n k, 1)) (kk : EX B D d μ (pc + 1) (ls.set (k : Nat) (some (.int x))) st h r h1) : EX B D d μ pc ls (.int x :: st) h r h1 := by
  refine ⟨kk.1, fun p l e R s m args below meth c H locs lsA n0 w0 Q cx hl hR hlo e1 e2 e3 e4 hq => ?_⟩
  exact lv_istore_n cx.1 cx.2.1 hd rfl hl.has (by rw [← hl.2.2.1]; exact hi) rfl (fun lsB hB => kk.2 p l e R s m args below meth c H locs lsB n0 w0 Q cx (pm_L.put1 hl hn hB) hR hlo e1 e2 e3 e4 hq)
theorem px_istore {i : Nat} {x : Int32} (hn : ∀ z, 0 < i → ls[i - 1]? = some z → pm_nl z = true) (hi : i < ls.length) (hd : decode μ.2.1 pc = .ok (.istore i, 2)) (kk : EX B D d μ (pc + 2) (ls.set i (some (.int x))) st h r h1) : EX B D d μ pc ls (.int x :: st) h r h1 := by
  refine ⟨kk.1, fun p l e R s m args below meth c H locs lsA n0 w0 Q cx hl hR hlo e1 e2 e3 e4 hq => ?_⟩
  exact lv_istore cx.1 cx.2.1 hd hl.has (by rw [← hl.2.2.1]; exact hi) rfl (fun lsB hB => kk.2 p l e R s m args below meth c H locs lsB n0 w0 Q cx (pm_L.put1 hl hn hB) hR hlo e1 e2 e3 e4 hq)

theorem px_lstore_n {k : Fin 4} {x : Int64} (hn : ∀ z, 0 < (k : Nat) → ls[(k : Nat) - 1]? = some z → pm_nl z = true) (hi : (k : Nat) + 1 < ls.length) (hd : decode μ.2.1 pc = .ok (.lstore_n k, 1)) (kk : EX B D d μ (pc + 1) ((ls.set (k : Nat) (some (.long x))).set ((k : Nat) + 1) none) st h r h1) : EX B D d μ pc ls (.long x :: st) h r h1 := by
  refine ⟨kk.1, fun p l e R s m args below meth c H locs lsA n0 w0 Q cx hl hR hlo e1 e2 e3 e4 hq => ?_⟩
  exact lv_lstore_n cx.1 cx.2.1 hd rfl hl.has (by rw [← hl.2.2.1]; exact hi) rfl (fun lsB hB => kk.2 p l e R s m args below meth c H locs lsB n0 w0 Q cx (pm_L.put2 hl hn hB) hR hlo e1 e2 e3 e4 hq)
theorem px_lstore {i : Nat} {x : Int64} (hn : ∀ z, 0 < i → ls[i - 1]? = some z → pm_nl z = true) (hi : i + 1 < ls.length) (hd : decode μ.2.1 pc = .ok (.lstore i, 2)) (kk : EX B D d μ (pc + 2) ((ls.set i (some (.long x))).set (i + 1) none) st h r h1) : EX B D d μ pc ls (.long x :: st) h r h1 := by
  refine ⟨kk.1, fun p l e R s m args below meth c H locs lsA n0 w0 Q cx hl hR hlo e1 e2 e3 e4 hq => ?_⟩
  exact lv_lstore cx.1 cx.2.1 hd hl.has (by rw [← hl.2.2.1]; exact hi) rfl (fun lsB hB => kk.2 p l e R s m args below meth c H locs lsB n0 w0 Q cx (pm_L.put2 hl hn hB) hR hlo e1 e2 e3 e4 hq)

theorem px_astore_n {k : Fin 4} {x : Nat} (hn : ∀ z, 0 < (k : Nat) → ls[(k : Nat) - 1]? = some z → pm_nl z = true) (hi : (k : Nat) < ls.length) (hd : decode μ.2.1 pc = .ok (.astore_n k, 1)) (kk : EX B D d μ (pc + 1) (ls.set (k : Nat) (some (.ref x))) st h r h1) : EX B D d μ pc ls (.ref x :: st) h r h1 := by
  refine ⟨kk.1, fun p l e R s m args below meth c H locs lsA n0 w0 Q cx hl hR hlo e1 e2 e3 e4 hq => ?_⟩
  exact lv_astore_n cx.1 cx.2.1 hd rfl hl.has (by rw [← hl.2.2.1]; exact hi) rfl (fun lsB hB => kk.2 p l e R s m args below meth c H locs lsB n0 w0 Q cx (pm_L.put1 hl hn hB) hR hlo e1 e2 e3 e4 hq)
theorem px_astore {i : Nat} {x : Nat} (hn : ∀ z, 0 < i → ls[i - 1]? = some z → pm_nl z = true) (hi : i < ls.length) (hd : decode μ.2.1 pc = .ok (.astore i, 2)) (kk : EX B D d μ (pc + 2) (ls.set i (some (.ref x))) st h r h1) : EX B D d μ pc ls (.ref x :: st) h r h1 := by
  refine ⟨kk.1, fun p l e R s m args below meth c H locs lsA n0 w0 Q cx hl hR hlo e1 e2 e3 e4 hq => ?_⟩
  exact lv_astore cx.1 cx.2.1 hd hl.has (by rw [← hl.2.2.1]; exact hi) rfl (fun lsB hB => kk.2 p l e R s m args below meth c H locs lsB n0 w0 Q cx (pm_L.put1 hl hn hB) hR hlo e1 e2 e3 e4 hq)

theorem px_astoreN_n {k : Fin 4}  (hn : ∀ z, 0 < (k : Nat) → ls[(k : Nat) - 1]? = some z → pm_nl z = true) (hi : (k : Nat) < ls.length) (hd : decode μ.2.1 pc = .ok (.astore_n k, 1)) (kk : EX B D d μ (pc + 1) (ls.set (k : Nat) (some (.null))) st h r h1) : EX B D d μ pc ls (.null :: st) h r h1 := by
  refine ⟨kk.1, fun p l e R s m args below meth c H locs lsA n0 w0 Q cx hl hR hlo e1 e2 e3 e4 hq => ?_⟩
  exact lv_astore_nN cx.1 cx.2.1 hd rfl hl.has (by rw [← hl.2.2.1]; exact hi) rfl (fun lsB hB => kk.2 p l e R s m args below meth c H locs lsB n0 w0 Q cx (pm_L.put1 hl hn hB) hR hlo e1 e2 e3 e4 hq)
theorem px_astoreN {i : Nat}  (hn : ∀ z, 0 < i → ls[i - 1]? = some z → pm_nl z = true) (hi : i < ls.length) (hd : decode μ.2.1 pc = .ok (.astore i, 2)) (kk : EX B D d μ (pc + 2) (ls.set i (some (.null))) st h r h1) : EX B D d μ pc ls (.null :: st) h r h1 := by
  refine ⟨kk.1, fun p l e R s m args below meth c H locs lsA n0 w0 Q cx hl hR hlo e1 e2 e3 e4 hq => ?_⟩
  exact lv_astoreN cx.1 cx.2.1 hd hl.has (by rw [← hl.2.2.1]; exact hi) rfl (fun lsB hB => kk.2 p l e R s m args below meth c H locs lsB n0 w0 Q cx (pm_L.put1 hl hn hB) hR hlo e1 e2 e3 e4 hq)
theorem px_iinc {i : Nat} {n : Int} {x v : Int32} (hn : ∀ z, 0 < i → ls[i - 1]? = some z → pm_nl z = true) (hv : ls[i]? = some (some (.int x))) (hc : x + Int32.ofInt n = v) (hd : decode μ.2.1 pc = .ok (.iinc i n, 3)) (kk : EX B D d μ (pc + 3) (ls.set i (some (.int v))) st h r h1) : EX B D d μ pc ls st h r h1 := by
  refine ⟨kk.1, fun p l e R s m args below meth c H locs lsA n0 w0 Q cx hl hR hlo e1 e2 e3 e4 hq => ?_⟩
  obtain ⟨k, hk⟩ := List.getElem?_of_mem (pm_lv_mem.mpr hv)
  exact lv_iinc cx.1 cx.2.1 hd hl.has hk hc (by rw [← hl.2.2.1]; exact (List.getElem?_eq_some_iff.mp hv).1) rfl (fun lsB hB => kk.2 p l e R s m args below meth c H locs lsB n0 w0 Q cx (pm_L.put1 hl hn hB) hR hlo e1 e2 e3 e4 hq)
theorem px_istore0 {c : Option Value} {t : pm_Ls} {x : Int32} (hd : decode μ.2.1 pc = .ok (.istore_n 0, 1)) (kk : EX B D d μ (pc + 1) (some (.int x) :: t) st h r h1) : EX B D d μ pc (c :: t) (.int x :: st) h r h1 :=
  px_istore_n (k := 0) (ls := c :: t) (fun z hz => absurd hz (by decide)) (by show 0 < _; simp) hd kk
theorem px_lstore0 {c c2 : Option Value} {t : pm_Ls} {x : Int64} (hd : decode μ.2.1 pc = .ok (.lstore_n 0, 1)) (kk : EX B D d μ (pc + 1) (some (.long x) :: none :: t) st h r h1) : EX B D d μ pc (c :: c2 :: t) (.long x :: st) h r h1 :=
  px_lstore_n (k := 0) (ls := c :: c2 :: t) (fun z hz => absurd hz (by decide)) (by show 0 + 1 < _; simp) hd kk
theorem px_astore0 {c : Option Value} {t : pm_Ls} {x : Nat} (hd : decode μ.2.1 pc = .ok (.astore_n 0, 1)) (kk : EX B D d μ (pc + 1) (some (.ref x) :: t) st h r h1) : EX B D d μ pc (c :: t) (.ref x :: st) h r h1 :=
  px_astore_n (k := 0) (ls := c :: t) (fun z hz => absurd hz (by decide)) (by show 0 < _; simp) hd kk
theorem px_astoreN0 {c : Option Value} {t : pm_Ls}  (hd : decode μ.2.1 pc = .ok (.astore_n 0, 1)) (kk : EX B D d μ (pc + 1) (some (.null) :: t) st h r h1) : EX B D d μ pc (c :: t) (.null :: st) h r h1 :=
  px_astoreN_n (k := 0) (ls := c :: t) (fun z hz => absurd hz (by decide)) (by show 0 < _; simp) hd kk
theorem px_iinc0 {t : pm_Ls} {n : Int} {x v : Int32} (hc : x + Int32.ofInt n = v) (hd : decode μ.2.1 pc = .ok (.iinc 0 n, 3)) (kk : EX B D d μ (pc + 3) (some (.int v) :: t) st h r h1) : EX B D d μ pc (some (.int x) :: t) st h r h1 :=
  px_iinc (i := 0) (ls := some (.int x) :: t) (fun z hz => absurd hz (by decide)) (by simp) hc hd kk
theorem px_istore1 {a0 : Option Value} {c : Option Value} {t : pm_Ls} {x : Int32} (hb : pm_nl a0 = true) (hd : decode μ.2.1 pc = .ok (.istore_n 1, 1)) (kk : EX B D d μ (pc + 1) (a0 :: some (.int x) :: t) st h r h1) : EX B D d μ pc (a0 :: c :: t) (.int x :: st) h r h1 :=
  px_istore_n (k := 1) (ls := a0 :: c :: t) (fun z hz he => by cases he; exact hb) (by show 1 < _; simp) hd kk
theorem px_lstore1 {a0 : Option Value} {c c2 : Option Value} {t : pm_Ls} {x : Int64} (hb : pm_nl a0 = true) (hd : decode μ.2.1 pc = .ok (.lstore_n 1, 1)) (kk : EX B D d μ (pc + 1) (a0 :: some (.long x) :: none :: t) st h r h1) : EX B D d μ pc (a0 :: c :: c2 :: t) (.long x :: st) h r h1 :=
  px_lstore_n (k := 1) (ls := a0 :: c :: c2 :: t) (fun z hz he => by cases he; exact hb) (by show 1 + 1 < _; simp) hd kk
theorem px_astore1 {a0 : Option Value} {c : Option Value} {t : pm_Ls} {x : Nat} (hb : pm_nl a0 = true) (hd : decode μ.2.1 pc = .ok (.astore_n 1, 1)) (kk : EX B D d μ (pc + 1) (a0 :: some (.ref x) :: t) st h r h1) : EX B D d μ pc (a0 :: c :: t) (.ref x :: st) h r h1 :=
  px_astore_n (k := 1) (ls := a0 :: c :: t) (fun z hz he => by cases he; exact hb) (by show 1 < _; simp) hd kk
theorem px_astoreN1 {a0 : Option Value} {c : Option Value} {t : pm_Ls}  (hb : pm_nl a0 = true) (hd : decode μ.2.1 pc = .ok (.astore_n 1, 1)) (kk : EX B D d μ (pc + 1) (a0 :: some (.null) :: t) st h r h1) : EX B D d μ pc (a0 :: c :: t) (.null :: st) h r h1 :=
  px_astoreN_n (k := 1) (ls := a0 :: c :: t) (fun z hz he => by cases he; exact hb) (by show 1 < _; simp) hd kk
theorem px_iinc1 {a0 : Option Value} {t : pm_Ls} {n : Int} {x v : Int32} (hb : pm_nl a0 = true) (hc : x + Int32.ofInt n = v) (hd : decode μ.2.1 pc = .ok (.iinc 1 n, 3)) (kk : EX B D d μ (pc + 3) (a0 :: some (.int v) :: t) st h r h1) : EX B D d μ pc (a0 :: some (.int x) :: t) st h r h1 :=
  px_iinc (i := 1) (ls := a0 :: some (.int x) :: t) (fun z hz he => by cases he; exact hb) (by simp) hc hd kk
theorem px_istore2 {a0 a1 : Option Value} {c : Option Value} {t : pm_Ls} {x : Int32} (hb : pm_nl a1 = true) (hd : decode μ.2.1 pc = .ok (.istore_n 2, 1)) (kk : EX B D d μ (pc + 1) (a0 :: a1 :: some (.int x) :: t) st h r h1) : EX B D d μ pc (a0 :: a1 :: c :: t) (.int x :: st) h r h1 :=
  px_istore_n (k := 2) (ls := a0 :: a1 :: c :: t) (fun z hz he => by cases he; exact hb) (by show 2 < _; simp) hd kk
theorem px_lstore2 {a0 a1 : Option Value} {c c2 : Option Value} {t : pm_Ls} {x : Int64} (hb : pm_nl a1 = true) (hd : decode μ.2.1 pc = .ok (.lstore_n 2, 1)) (kk : EX B D d μ (pc + 1) (a0 :: a1 :: some (.long x) :: none :: t) st h r h1) : EX B D d μ pc (a0 :: a1 :: c :: c2 :: t) (.long x :: st) h r h1 :=
  px_lstore_n (k := 2) (ls := a0 :: a1 :: c :: c2 :: t) (fun z hz he => by cases he; exact hb) (by show 2 + 1 < _; simp) hd kk
theorem px_astore2 {a0 a1 : Option Value} {c : Option Value} {t : pm_Ls} {x : Nat} (hb : pm_nl a1 = true) (hd : decode μ.2.1 pc = .ok (.astore_n 2, 1)) (kk : EX B D d μ (pc + 1) (a0 :: a1 :: some (.ref x) :: t) st h r h1) : EX B D d μ pc (a0 :: a1 :: c :: t) (.ref x :: st) h r h1 :=
  px_astore_n (k := 2) (ls := a0 :: a1 :: c :: t) (fun z hz he => by cases he; exact hb) (by show 2 < _; simp) hd kk
theorem px_astoreN2 {a0 a1 : Option Value} {c : Option Value} {t : pm_Ls}  (hb : pm_nl a1 = true) (hd : decode μ.2.1 pc = .ok (.astore_n 2, 1)) (kk : EX B D d μ (pc + 1) (a0 :: a1 :: some (.null) :: t) st h r h1) : EX B D d μ pc (a0 :: a1 :: c :: t) (.null :: st) h r h1 :=
  px_astoreN_n (k := 2) (ls := a0 :: a1 :: c :: t) (fun z hz he => by cases he; exact hb) (by show 2 < _; simp) hd kk
theorem px_iinc2 {a0 a1 : Option Value} {t : pm_Ls} {n : Int} {x v : Int32} (hb : pm_nl a1 = true) (hc : x + Int32.ofInt n = v) (hd : decode μ.2.1 pc = .ok (.iinc 2 n, 3)) (kk : EX B D d μ (pc + 3) (a0 :: a1 :: some (.int v) :: t) st h r h1) : EX B D d μ pc (a0 :: a1 :: some (.int x) :: t) st h r h1 :=
  px_iinc (i := 2) (ls := a0 :: a1 :: some (.int x) :: t) (fun z hz he => by cases he; exact hb) (by simp) hc hd kk
theorem px_istore3 {a0 a1 a2 : Option Value} {c : Option Value} {t : pm_Ls} {x : Int32} (hb : pm_nl a2 = true) (hd : decode μ.2.1 pc = .ok (.istore_n 3, 1)) (kk : EX B D d μ (pc + 1) (a0 :: a1 :: a2 :: some (.int x) :: t) st h r h1) : EX B D d μ pc (a0 :: a1 :: a2 :: c :: t) (.int x :: st) h r h1 :=
  px_istore_n (k := 3) (ls := a0 :: a1 :: a2 :: c :: t) (fun z hz he => by cases he; exact hb) (by show 3 < _; simp) hd kk
theorem px_lstore3 {a0 a1 a2 : Option Value} {c c2 : Option Value} {t : pm_Ls} {x : Int64} (hb : pm_nl a2 = true) (hd : decode μ.2.1 pc = .ok (.lstore_n 3, 1)) (kk : EX B D d μ (pc + 1) (a0 :: a1 :: a2 :: some (.long x) :: none :: t) st h r h1) : EX B D d μ pc (a0 :: a1 :: a2 :: c :: c2 :: t) (.long x :: st) h r h1 :=
  px_lstore_n (k := 3) (ls := a0 :: a1 :: a2 :: c :: c2 :: t) (fun z hz he => by cases he; exact hb) (by show 3 + 1 < _; simp) hd kk
theorem px_astore3 {a0 a1 a2 : Option Value} {c : Option Value} {t : pm_Ls} {x : Nat} (hb : pm_nl a2 = true) (hd : decode μ.2.1 pc = .ok (.astore_n 3, 1)) (kk : EX B D d μ (pc + 1) (a0 :: a1 :: a2 :: some (.ref x) :: t) st h r h1) : EX B D d μ pc (a0 :: a1 :: a2 :: c :: t) (.ref x :: st) h r h1 :=
  px_astore_n (k := 3) (ls := a0 :: a1 :: a2 :: c :: t) (fun z hz he => by cases he; exact hb) (by show 3 < _; simp) hd kk
theorem px_astoreN3 {a0 a1 a2 : Option Value} {c : Option Value} {t : pm_Ls}  (hb : pm_nl a2 = true) (hd : decode μ.2.1 pc = .ok (.astore_n 3, 1)) (kk : EX B D d μ (pc + 1) (a0 :: a1 :: a2 :: some (.null) :: t) st h r h1) : EX B D d μ pc (a0 :: a1 :: a2 :: c :: t) (.null :: st) h r h1 :=
  px_astoreN_n (k := 3) (ls := a0 :: a1 :: a2 :: c :: t) (fun z hz he => by cases he; exact hb) (by show 3 < _; simp) hd kk
theorem px_iinc3 {a0 a1 a2 : Option Value} {t : pm_Ls} {n : Int} {x v : Int32} (hb : pm_nl a2 = true) (hc : x + Int32.ofInt n = v) (hd : decode μ.2.1 pc = .ok (.iinc 3 n, 3)) (kk : EX B D d μ (pc + 3) (a0 :: a1 :: a2 :: some (.int v) :: t) st h r h1) : EX B D d μ pc (a0 :: a1 :: a2 :: some (.int x) :: t) st h r h1 :=
  px_iinc (i := 3) (ls := a0 :: a1 :: a2 :: some (.int x) :: t) (fun z hz he => by cases he; exact hb) (by simp) hc hd kk
theorem px_istore4 {a0 a1 a2 a3 : Option Value} {c : Option Value} {t : pm_Ls} {x : Int32} (hb : pm_nl a3 = true) (hd : decode μ.2.1 pc = .ok (.istore 4, 2)) (kk : EX B D d μ (pc + 2) (a0 :: a1 :: a2 :: a3 :: some (.int x) :: t) st h r h1) : EX B D d μ pc (a0 :: a1 :: a2 :: a3 :: c :: t) (.int x :: st) h r h1 :=
  px_istore (i := 4) (ls := a0 :: a1 :: a2 :: a3 :: c :: t) (fun z hz he => by cases he; exact hb) (by show 4 < _; simp) hd kk
theorem px_lstore4 {a0 a1 a2 a3 : Option Value} {c c2 : Option Value} {t : pm_Ls} {x : Int64} (hb : pm_nl a3 = true) (hd : decode μ.2.1 pc = .ok (.lstore 4, 2)) (kk : EX B D d μ (pc + 2) (a0 :: a1 :: a2 :: a3 :: some (.long x) :: none :: t) st h r h1) : EX B D d μ pc (a0 :: a1 :: a2 :: a3 :: c :: c2 :: t) (.long x :: st) h r h1 :=
  px_lstore (i := 4) (ls := a0 :: a1 :: a2 :: a3 :: c :: c2 :: t) (fun z hz he => by cases he; exact hb) (by show 4 + 1 < _; simp) hd kk
theorem px_astore4 {a0 a1 a2 a3 : Option Value} {c : Option Value} {t : pm_Ls} {x : Nat} (hb : pm_nl a3 = true) (hd : decode μ.2.1 pc = .ok (.astore 4, 2)) (kk : EX B D d μ (pc + 2) (a0 :: a1 :: a2 :: a3 :: some (.ref x) :: t) st h r h1) : EX B D d μ pc (a0 :: a1 :: a2 :: a3 :: c :: t) (.ref x :: st) h r h1 :=
  px_astore (i := 4) (ls := a0 :: a1 :: a2 :: a3 :: c :: t) (fun z hz he => by cases he; exact hb) (by show 4 < _; simp) hd kk
theorem px_astoreN4 {a0 a1 a2 a3 : Option Value} {c : Option Value} {t : pm_Ls}  (hb : pm_nl a3 = true) (hd : decode μ.2.1 pc = .ok (.astore 4, 2)) (kk : EX B D d μ (pc + 2) (a0 :: a1 :: a2 :: a3 :: some (.null) :: t) st h r h1) : EX B D d μ pc (a0 :: a1 :: a2 :: a3 :: c :: t) (.null :: st) h r h1 :=
  px_astoreN (i := 4) (ls := a0 :: a1 :: a2 :: a3 :: c :: t) (fun z hz he => by cases he; exact hb) (by show 4 < _; simp) hd kk
theorem px_iinc4 {a0 a1 a2 a3 : Option Value} {t : pm_Ls} {n : Int} {x v : Int32} (hb : pm_nl a3 = true) (hc : x + Int32.ofInt n = v) (hd : decode μ.2.1 pc = .ok (.iinc 4 n, 3)) (kk : EX B D d μ (pc + 3) (a0 :: a1 :: a2 :: a3 :: some (.int v) :: t) st h r h1) : EX B D d μ pc (a0 :: a1 :: a2 :: a3 :: some (.int x) :: t) st h r h1 :=
  px_iinc (i := 4) (ls := a0 :: a1 :: a2 :: a3 :: some (.int x) :: t) (fun z hz he => by cases he; exact hb) (by simp) hc hd kk
theorem px_istore5 {a0 a1 a2 a3 a4 : Option Value} {c : Option Value} {t : pm_Ls} {x : Int32} (hb : pm_nl a4 = true) (hd : decode μ.2.1 pc = .ok (.istore 5, 2)) (kk : EX B D d μ (pc + 2) (a0 :: a1 :: a2 :: a3 :: a4 :: some (.int x) :: t) st h r h1) : EX B D d μ pc (a0 :: a1 :: a2 :: a3 :: a4 :: c :: t) (.int x :: st) h r h1 :=
  px_istore (i := 5) (ls := a0 :: a1 :: a2 :: a3 :: a4 :: c :: t) (fun z hz he => by cases he; exact hb) (by show 5 < _; simp) hd kk
theorem px_lstore5 {a0 a1 a2 a3 a4 : Option Value} {c c2 : Option Value} {t : pm_Ls} {x : Int64} (hb : pm_nl a4 = true) (hd : decode μ.2.1 pc = .ok (.lstore 5, 2)) (kk : EX B D d μ (pc + 2) (a0 :: a1 :: a2 :: a3 :: a4 :: some (.long x) :: none :: t) st h r h1) : EX B D d μ pc (a0 :: a1 :: a2 :: a3 :: a4 :: c :: c2 :: t) (.long x :: st) h r h1 :=
  px_lstore (i := 5) (ls := a0 :: a1 :: a2 :: a3 :: a4 :: c :: c2 :: t) (fun z hz he => by cases he; exact hb) (by show 5 + 1 < _; simp) hd kk
theorem px_astore5 {a0 a1 a2 a3 a4 : Option Value} {c : Option Value} {t : pm_Ls} {x : Nat} (hb : pm_nl a4 = true) (hd : decode μ.2.1 pc = .ok (.astore 5, 2)) (kk : EX B D d μ (pc + 2) (a0 :: a1 :: a2 :: a3 :: a4 :: some (.ref x) :: t) st h r h1) : EX B D d μ pc (a0 :: a1 :: a2 :: a3 :: a4 :: c :: t) (.ref x :: st) h r h1 :=
  px_astore (i := 5) (ls := a0 :: a1 :: a2 :: a3 :: a4 :: c :: t) (fun z hz he => by cases he; exact hb) (by show 5 < _; simp) hd kk
theorem px_astoreN5 {a0 a1 a2 a3 a4 : Option Value} {c : Option Value} {t : pm_Ls}  (hb : pm_nl a4 = true) (hd : decode μ.2.1 pc = .ok (.astore 5, 2)) (kk : EX B D d μ (pc + 2) (a0 :: a1 :: a2 :: a3 :: a4 :: some (.null) :: t) st h r h1) : EX B D d μ pc (a0 :: a1 :: a2 :: a3 :: a4 :: c :: t) (.null :: st) h r h1 :=
  px_astoreN (i := 5) (ls := a0 :: a1 :: a2 :: a3 :: a4 :: c :: t) (fun z hz he => by cases he; exact hb) (by show 5 < _; simp) hd kk
theorem px_iinc5 {a0 a1 a2 a3 a4 : Option Value} {t : pm_Ls} {n : Int} {x v : Int32} (hb : pm_nl a4 = true) (hc : x + Int32.ofInt n = v) (hd : decode μ.2.1 pc = .ok (.iinc 5 n, 3)) (kk : EX B D d μ (pc + 3) (a0 :: a1 :: a2 :: a3 :: a4 :: some (.int v) :: t) st h r h1) : EX B D d μ pc (a0 :: a1 :: a2 :: a3 :: a4 :: some (.int x) :: t) st h r h1 :=
  px_iinc (i := 5) (ls := a0 :: a1 :: a2 :: a3 :: a4 :: some (.int x) :: t) (fun z hz he => by cases he; exact hb) (by simp) hc hd kk
theorem px_istore6 {a0 a1 a2 a3 a4 a5 : Option Value} {c : Option Value} {t : pm_Ls} {x : Int32} (hb : pm_nl a5 = true) (hd : decode μ.2.1 pc = .ok (.istore 6, 2)) (kk : EX B D d μ (pc + 2) (a0 :: a1 :: a2 :: a3 :: a4 :: a5 :: some (.int x) :: t) st h r h1) : EX B D d μ pc (a0 :: a1 :: a2 :: a3 :: a4 :: a5 :: c :: t) (.int x :: st) h r h1 :=
  px_istore (i := 6) (ls := a0 :: a1 :: a2 :: a3 :: a4 :: a5 :: c :: t) (fun z hz he => by cases he; exact hb) (by show 6 < _; simp) hd kk
theorem px_lstore6 {a0 a1 a2 a3 a4 a5 : Option Value} {c c2 : Option Value} {t : pm_Ls} {x : Int64} (hb : pm_nl a5 = true) (hd : decode μ.2.1 pc = .ok (.lstore 6, 2)) (kk : EX B D d μ (pc + 2) (a0 :: a1 :: a2 :: a3 :: a4 :: a5 :: some (.long x) :: none :: t) st h r h1) : EX B D d μ pc (a0 :: a1 :: a2 :: a3 :: a4 :: a5 :: c :: c2 :: t) (.long x :: st) h r h1 :=
  px_lstore (i := 6) (ls := a0 :: a1 :: a2 :: a3 :: a4 :: a5 :: c :: c2 :: t) (fun z hz he => by cases he; exact hb) (by show 6 + 1 < _; simp) hd kk
theorem px_astore6 {a0 a1 a2 a3 a4 a5 : Option Value} {c : Option Value} {t : pm_Ls} {x : Nat} (hb : pm_nl a5 = true) (hd : decode μ.2.1 pc = .ok (.astore 6, 2)) (kk : EX B D d μ (pc + 2) (a0 :: a1 :: a2 :: a3 :: a4 :: a5 :: some (.ref x) :: t) st h r h1) : EX B D d μ pc (a0 :: a1 :: a2 :: a3 :: a4 :: a5 :: c :: t) (.ref x :: st) h r h1 :=
  px_astore (i := 6) (ls := a0 :: a1 :: a2 :: a3 :: a4 :: a5 :: c :: t) (fun z hz he => by cases he; exact hb) (by show 6 < _; simp) hd kk
theorem px_astoreN6 {a0 a1 a2 a3 a4 a5 : Option Value} {c : Option Value} {t : pm_Ls}  (hb : pm_nl a5 = true) (hd : decode μ.2.1 pc = .ok (.astore 6, 2)) (kk : EX B D d μ (pc + 2) (a0 :: a1 :: a2 :: a3 :: a4 :: a5 :: some (.null) :: t) st h r h1) : EX B D d μ pc (a0 :: a1 :: a2 :: a3 :: a4 :: a5 :: c :: t) (.null :: st) h r h1 :=
  px_astoreN (i := 6) (ls := a0 :: a1 :: a2 :: a3 :: a4 :: a5 :: c :: t) (fun z hz he => by cases he; exact hb) (by show 6 < _; simp) hd kk
theorem px_iinc6 {a0 a1 a2 a3 a4 a5 : Option Value} {t : pm_Ls} {n : Int} {x v : Int32} (hb : pm_nl a5 = true) (hc : x + Int32.ofInt n = v) (hd : decode μ.2.1 pc = .ok (.iinc 6 n, 3)) (kk : EX B D d μ (pc + 3) (a0 :: a1 :: a2 :: a3 :: a4 :: a5 :: some (.int v) :: t) st h r h1) : EX B D d μ pc (a0 :: a1 :: a2 :: a3 :: a4 :: a5 :: some (.int x) :: t) st h r h1 :=
  px_iinc (i := 6) (ls := a0 :: a1 :: a2 :: a3 :: a4 :: a5 :: some (.int x) :: t) (fun z hz he => by cases he; exact hb) (by simp) hc hd kk
theorem px_istore7 {a0 a1 a2 a3 a4 a5 a6 : Option Value} {c : Option Value} {t : pm_Ls} {x : Int32} (hb : pm_nl a6 = true) (hd : decode μ.2.1 pc = .ok (.istore 7, 2)) (kk : EX B D d μ (pc + 2) (a0 :: a1 :: a2 :: a3 :: a4 :: a5 :: a6 :: some (.int x) :: t) st h r h1) : EX B D d μ pc (a0 :: a1 :: a2 :: a3 :: a4 :: a5 :: a6 :: c :: t) (.int x :: st) h r h1 :=
  px_istore (i := 7) (ls := a0 :: a1 :: a2 :: a3 :: a4 :: a5 :: a6 :: c :: t) (fun z hz he => by cases he; exact hb) (by show 7 < _; simp) hd kk
theorem px_lstore7 {a0 a1 a2 a3 a4 a5 a6 : Option Value} {c c2 : Option Value} {t : pm_Ls} {x : Int64} (hb : pm_nl a6 = true) (hd : decode μ.2.1 pc = .ok (.lstore 7, 2)) (kk : EX B D d μ (pc + 2) (a0 :: a1 :: a2 :: a3 :: a4 :: a5 :: a6 :: some (.long x) :: none :: t) st h r h1) : EX B D d μ pc (a0 :: a1 :: a2 :: a3 :: a4 :: a5 :: a6 :: c :: c2 :: t) (.long x :: st) h r h1 :=
  px_lstore (i := 7) (ls := a0 :: a1 :: a2 :: a3 :: a4 :: a5 :: a6 :: c :: c2 :: t) (fun z hz he => by cases he; exact hb) (by show 7 + 1 < _; simp) hd kk
theorem px_astore7 {a0 a1 a2 a3 a4 a5 a6 : Option Value} {c : Option Value} {t : pm_Ls} {x : Nat} (hb : pm_nl a6 = true) (hd : decode μ.2.1 pc = .ok (.astore 7, 2)) (kk : EX B D d μ (pc + 2) (a0 :: a1 :: a2 :: a3 :: a4 :: a5 :: a6 :: some (.ref x) :: t) st h r h1) : EX B D d μ pc (a0 :: a1 :: a2 :: a3 :: a4 :: a5 :: a6 :: c :: t) (.ref x :: st) h r h1 :=
  px_astore (i := 7) (ls := a0 :: a1 :: a2 :: a3 :: a4 :: a5 :: a6 :: c :: t) (fun z hz he => by cases he; exact hb) (by show 7 < _; simp) hd kk
theorem px_astoreN7 {a0 a1 a2 a3 a4 a5 a6 : Option Value} {c : Option Value} {t : pm_Ls}  (hb : pm_nl a6 = true) (hd : decode μ.2.1 pc = .ok (.astore 7, 2)) (kk : EX B D d μ (pc + 2) (a0 :: a1 :: a2 :: a3 :: a4 :: a5 :: a6 :: some (.null) :: t) st h r h1) : EX B D d μ pc (a0 :: a1 :: a2 :: a3 :: a4 :: a5 :: a6 :: c :: t) (.null :: st) h r h1 :=
  px_astoreN (i := 7) (ls := a0 :: a1 :: a2 :: a3 :: a4 :: a5 :: a6 :: c :: t) (fun z hz he => by cases he; exact hb) (by show 7 < _; simp) hd kk
theorem px_iinc7 {a0 a1 a2 a3 a4 a5 a6 : Option Value} {t : pm_Ls} {n : Int} {x v : Int32} (hb : pm_nl a6 = true) (hc : x + Int32.ofInt n = v) (hd : decode μ.2.1 pc = .ok (.iinc 7 n, 3)) (kk : EX B D d μ (pc + 3) (a0 :: a1 :: a2 :: a3 :: a4 :: a5 :: a6 :: some (.int v) :: t) st h r h1) : EX B D d μ pc (a0 :: a1 :: a2 :: a3 :: a4 :: a5 :: a6 :: some (.int x) :: t) st h r h1 :=
  px_iinc (i := 7) (ls := a0 :: a1 :: a2 :: a3 :: a4 :: a5 :: a6 :: some (.int x) :: t) (fun z hz he => by cases he; exact hb) (by simp) hc hd kk
theorem px_istore8 {a0 a1 a2 a3 a4 a5 a6 a7 : Option Value} {c : Option Value} {t : pm_Ls} {x : Int32} (hb : pm_nl a7 = true) (hd : decode μ.2.1 pc = .ok (.istore 8, 2)) (kk : EX B D d μ (pc + 2) (a0 :: a1 :: a2 :: a3 :: a4 :: a5 :: a6 :: a7 :: some (.int x) :: t) st h r h1) : EX B D d μ pc (a0 :: a1 :: a2 :: a3 :: a4 :: a5 :: a6 :: a7 :: c :: t) (.int x :: st) h r h1 :=
  px_istore (i := 8) (ls := a0 :: a1 :: a2 :: a3 :: a4 :: a5 :: a6 :: a7 :: c :: t) (fun z hz he => by cases he; exact hb) (by show 8 < _; simp) hd kk
theorem px_lstore8 {a0 a1 a2 a3 a4 a5 a6 a7 : Option Value} {c c2 : Option Value} {t : pm_Ls} {x : Int64} (hb : pm_nl a7 = true) (hd : decode μ.2.1 pc = .ok (.lstore 8, 2)) (kk : EX B D d μ (pc + 2) (a0 :: a1 :: a2 :: a3 :: a4 :: a5 :: a6 :: a7 :: some (.long x) :: none :: t) st h r h1) : EX B D d μ pc (a0 :: a1 :: a2 :: a3 :: a4 :: a5 :: a6 :: a7 :: c :: c2 :: t) (.long x :: st) h r h1 :=
  px_lstore (i := 8) (ls := a0 :: a1 :: a2 :: a3 :: a4 :: a5 :: a6 :: a7 :: c :: c2 :: t) (fun z hz he => by cases he; exact hb) (by show 8 + 1 < _; simp) hd kk
theorem px_astore8 {a0 a1 a2 a3 a4 a5 a6 a7 : Option Value} {c : Option Value} {t : pm_Ls} {x : Nat} (hb : pm_nl a7 = true) (hd : decode μ.2.1 pc = .ok (.astore 8, 2)) (kk : EX B D d μ (pc + 2) (a0 :: a1 :: a2 :: a3 :: a4 :: a5 :: a6 :: a7 :: some (.ref x) :: t) st h r h1) : EX B D d μ pc (a0 :: a1 :: a2 :: a3 :: a4 :: a5 :: a6 :: a7 :: c :: t) (.ref x :: st) h r h1 :=
  px_astore (i := 8) (ls := a0 :: a1 :: a2 :: a3 :: a4 :: a5 :: a6 :: a7 :: c :: t) (fun z hz he => by cases he; exact hb) (by show 8 < _; simp) hd kk
theorem px_astoreN8 {a0 a1 a2 a3 a4 a5 a6 a7 : Option Value} {c : Option Value} {t : pm_Ls}  (hb : pm_nl a7 = true) (hd : decode μ.2.1 pc = .ok (.astore 8, 2)) (kk : EX B D d μ (pc + 2) (a0 :: a1 :: a2 :: a3 :: a4 :: a5 :: a6 :: a7 :: some (.null) :: t) st h r h1) : EX B D d μ pc (a0 :: a1 :: a2 :: a3 :: a4 :: a5 :: a6 :: a7 :: c :: t) (.null :: st) h r h1 :=
  px_astoreN (i := 8) (ls := a0 :: a1 :: a2 :: a3 :: a4 :: a5 :: a6 :: a7 :: c :: t) (fun z hz he => by cases he; exact hb) (by show 8 < _; simp) hd kk
theorem px_iinc8 {a0 a1 a2 a3 a4 a5 a6 a7 : Option Value} {t : pm_Ls} {n : Int} {x v : Int32} (hb : pm_nl a7 = true) (hc : x + Int32.ofInt n = v) (hd : decode μ.2.1 pc = .ok (.iinc 8 n, 3)) (kk : EX B D d μ (pc + 3) (a0 :: a1 :: a2 :: a3 :: a4 :: a5 :: a6 :: a7 :: some (.int v) :: t) st h r h1) : EX B D d μ pc (a0 :: a1 :: a2 :: a3 :: a4 :: a5 :: a6 :: a7 :: some (.int x) :: t) st h r h1 :=
  px_iinc (i := 8) (ls := a0 :: a1 :: a2 :: a3 :: a4 :: a5 :: a6 :: a7 :: some (.int x) :: t) (fun z hz he => by cases he; exact hb) (by simp) hc hd kk
theorem px_istore9 {a0 a1 a2 a3 a4 a5 a6 a7 a8 : Option Value} {c : Option Value} {t : pm_Ls} {x : Int32} (hb : pm_nl a8 = true) (hd : decode μ.2.1 pc = .ok (.istore 9, 2)) (kk : EX B D d μ (pc + 2) (a0 :: a1 :: a2 :: a3 :: a4 :: a5 :: a6 :: a7 :: a8 :: some (.int x) :: t) st h r h1) : EX B D d μ pc (a0 :: a1 :: a2 :: a3 :: a4 :: a5 :: a6 :: a7 :: a8 :: c :: t) (.int x :: st) h r h1 :=
  px_istore (i := 9) (ls := a0 :: a1 :: a2 :: a3 :: a4 :: a5 :: a6 :: a7 :: a8 :: c :: t) (fun z hz he => by cases he; exact hb) (by show 9 < _; simp) hd kk
theorem px_lstore9 {a0 a1 a2 a3 a4 a5 a6 a7 a8 : Option Value} {c c2 : Option Value} {t : pm_Ls} {x : Int64} (hb : pm_nl a8 = true) (hd : decode μ.2.1 pc = .ok (.lstore 9, 2)) (kk : EX B D d μ (pc + 2) (a0 :: a1 :: a2 :: a3 :: a4 :: a5 :: a6 :: a7 :: a8 :: some (.long x) :: none :: t) st h r h1) : EX B D d μ pc (a0 :: a1 :: a2 :: a3 :: a4 :: a5 :: a6 :: a7 :: a8 :: c :: c2 :: t) (.long x :: st) h r h1 :=
  px_lstore (i := 9) (ls := a0 :: a1 :: a2 :: a3 :: a4 :: a5 :: a6 :: a7 :: a8 :: c :: c2 :: t) (fun z hz he => by cases he; exact hb) (by show 9 + 1 < _; simp) hd kk
theorem px_astore9 {a0 a1 a2 a3 a4 a5 a6 a7 a8 : Option Value} {c : Option Value} {t : pm_Ls} {x : Nat} (hb : pm_nl a8 = true) (hd : decode μ.2.1 pc = .ok (.astore 9, 2)) (kk : EX B D d μ (pc + 2) (a0 :: a1 :: a2 :: a3 :: a4 :: a5 :: a6 :: a7 :: a8 :: some (.ref x) :: t) st h r h1) : EX B D d μ pc (a0 :: a1 :: a2 :: a3 :: a4 :: a5 :: a6 :: a7 :: a8 :: c :: t) (.ref x :: st) h r h1 :=
  px_astore (i := 9) (ls := a0 :: a1 :: a2 :: a3 :: a4 :: a5 :: a6 :: a7 :: a8 :: c :: t) (fun z hz he => by cases he; exact hb) (by show 9 < _; simp) hd kk
theorem px_astoreN9 {a0 a1 a2 a3 a4 a5 a6 a7 a8 : Option Value} {c : Option Value} {t : pm_Ls}  (hb : pm_nl a8 = true) (hd : decode μ.2.1 pc = .ok (.astore 9, 2)) (kk : EX B D d μ (pc + 2) (a0 :: a1 :: a2 :: a3 :: a4 :: a5 :: a6 :: a7 :: a8 :: some (.null) :: t) st h r h1) : EX B D d μ pc (a0 :: a1 :: a2 :: a3 :: a4 :: a5 :: a6 :: a7 :: a8 :: c :: t) (.null :: st) h r h1 :=
  px_astoreN (i := 9) (ls := a0 :: a1 :: a2 :: a3 :: a4 :: a5 :: a6 :: a7 :: a8 :: c :: t) (fun z hz he => by cases he; exact hb) (by show 9 < _; simp) hd kk
theorem px_iinc9 {a0 a1 a2 a3 a4 a5 a6 a7 a8 : Option Value} {t : pm_Ls} {n : Int} {x v : Int32} (hb : pm_nl a8 = true) (hc : x + Int32.ofInt n = v) (hd : decode μ.2.1 pc = .ok (.iinc 9 n, 3)) (kk : EX B D d μ (pc + 3) (a0 :: a1 :: a2 :: a3 :: a4 :: a5 :: a6 :: a7 :: a8 :: some (.int v) :: t) st h r h1) : EX B D d μ pc (a0 :: a1 :: a2 :: a3 :: a4 :: a5 :: a6 :: a7 :: a8 :: some (.int x) :: t) st h r h1 :=
  px_iinc (i := 9) (ls := a0 :: a1 :: a2 :: a3 :: a4 :: a5 :: a6 :: a7 :: a8 :: some (.int x) :: t) (fun z hz he => by cases he; exact hb) (by simp) hc hd kk
theorem px_istore10 {a0 a1 a2 a3 a4 a5 a6 a7 a8 a9 : Option Value} {c : Option Value} {t : pm_Ls} {x : Int32} (hb : pm_nl a9 = true) (hd : decode μ.2.1 pc = .ok (.istore 10, 2)) (kk : EX B D d μ (pc + 2) (a0 :: a1 :: a2 :: a3 :: a4 :: a5 :: a6 :: a7 :: a8 :: a9 :: some (.int x) :: t) st h r h1) : EX B D d μ pc (a0 :: a1 :: a2 :: a3 :: a4 :: a5 :: a6 :: a7 :: a8 :: a9 :: c :: t) (.int x :: st) h r h1 :=
  px_istore (i := 10) (ls := a0 :: a1 :: a2 :: a3 :: a4 :: a5 :: a6 :: a7 :: a8 :: a9 :: c :: t) (fun z hz he => by cases he; exact hb) (by show 10 < _; simp) hd kk
theorem px_lstore10 {a0 a1 a2 a3 a4 a5 a6 a7 a8 a9 : Option Value} {c c2 : Option Value} {t : pm_Ls} {x : Int64} (hb : pm_nl a9 = true) (hd : decode μ.2.1 pc = .ok (.lstore 10, 2)) (kk : EX B D d μ (pc + 2) (a0 :: a1 :: a2 :: a3 :: a4 :: a5 :: a6 :: a7 :: a8 :: a9 :: some (.long x) :: none :: t) st h r h1) : EX B D d μ pc (a0 :: a1 :: a2 :: a3 :: a4 :: a5 :: a6 :: a7 :: a8 :: a9 :: c :: c2 :: t) (.long x :: st) h r h1 :=
  px_lstore (i := 10) (ls := a0 :: a1 :: a2 :: a3 :: a4 :: a5 :: a6 :: a7 :: a8 :: a9 :: c :: c2 :: t) (fun z hz he => by cases he; exact hb) (by show 10 + 1 < _; simp) hd kk
theorem px_astore10 {a0 a1 a2 a3 a4 a5 a6 a7 a8 a9 : Option Value} {c : Option Value} {t : pm_Ls} {x : Nat} (hb : pm_nl a9 = true) (hd : decode μ.2.1 pc = .ok (.astore 10, 2)) (kk : EX B D d μ (pc + 2) (a0 :: a1 :: a2 :: a3 :: a4 :: a5 :: a6 :: a7 :: a8 :: a9 :: some (.ref x) :: t) st h r h1) : EX B D d μ pc (a0 :: a1 :: a2 :: a3 :: a4 :: a5 :: a6 :: a7 :: a8 :: a9 :: c :: t) (.ref x :: st) h r h1 :=
  px_astore (i := 10) (ls := a0 :: a1 :: a2 :: a3 :: a4 :: a5 :: a6 :: a7 :: a8 :: a9 :: c :: t) (fun z hz he => by cases he; exact hb) (by show 10 < _; simp) hd kk
theorem px_astoreN10 {a0 a1 a2 a3 a4 a5 a6 a7 a8 a9 : Option Value} {c : Option Value} {t : pm_Ls}  (hb : pm_nl a9 = true) (hd : decode μ.2.1 pc = .ok (.astore 10, 2)) (kk : EX B D d μ (pc + 2) (a0 :: a1 :: a2 :: a3 :: a4 :: a5 :: a6 :: a7 :: a8 :: a9 :: some (.null) :: t) st h r h1) : EX B D d μ pc (a0 :: a1 :: a2 :: a3 :: a4 :: a5 :: a6 :: a7 :: a8 :: a9 :: c :: t) (.null :: st) h r h1 :=
  px_astoreN (i := 10) (ls := a0 :: a1 :: a2 :: a3 :: a4 :: a5 :: a6 :: a7 :: a8 :: a9 :: c :: t) (fun z hz he => by cases he; exact hb) (by show 10 < _; simp) hd kk
theorem px_iinc10 {a0 a1 a2 a3 a4 a5 a6 a7 a8 a9 : Option Value} {t : pm_Ls} {n : Int} {x v : Int32} (hb : pm_nl a9 = true) (hc : x + Int32.ofInt n = v) (hd : decode μ.2.1 pc = .ok (.iinc 10 n, 3)) (kk : EX B D d μ (pc + 3) (a0 :: a1 :: a2 :: a3 :: a4 :: a5 :: a6 :: a7 :: a8 :: a9 :: some (.int v) :: t) st h r h1) : EX B D d μ pc (a0 :: a1 :: a2 :: a3 :: a4 :: a5 :: a6 :: a7 :: a8 :: a9 :: some (.int x) :: t) st h r h1 :=
  px_iinc (i := 10) (ls := a0 :: a1 :: a2 :: a3 :: a4 :: a5 :: a6 :: a7 :: a8 :: a9 :: some (.int x) :: t) (fun z hz he => by cases he; exact hb) (by simp) hc hd kk
theorem px_istore11 {a0 a1 a2 a3 a4 a5 a6 a7 a8 a9 a10 : Option Value} {c : Option Value} {t : pm_Ls} {x : Int32} (hb : pm_nl a10 = true) (hd : decode μ.2.1 pc = .ok (.istore 11, 2)) (kk : EX B D d μ (pc + 2) (a0 :: a1 :: a2 :: a3 :: a4 :: a5 :: a6 :: a7 :: a8 :: a9 :: a10 :: some (.int x) :: t) st h r h1) : EX B D d μ pc (a0 :: a1 :: a2 :: a3 :: a4 :: a5 :: a6 :: a7 :: a8 :: a9 :: a10 :: c :: t) (.int x :: st) h r h1 :=
  px_istore (i := 11) (ls := a0 :: a1 :: a2 :: a3 :: a4 :: a5 :: a6 :: a7 :: a8 :: a9 :: a10 :: c :: t) (fun z hz he => by cases he; exact hb) (by show 11 < _; simp) hd kk
theorem px_lstore11 {a0 a1 a2 a3 a4 a5 a6 a7 a8 a9 a10 : Option Value} {c c2 : Option Value} {t : pm_Ls} {x : Int64} (hb : pm_nl a10 = true) (hd : decode μ.2.1 pc = .ok (.lstore 11, 2)) (kk : EX B D d μ (pc + 2) (a0 :: a1 :: a2 :: a3 :: a4 :: a5 :: a6 :: a7 :: a8 :: a9 :: a10 :: some (.long x) :: none :: t) st h r h1) : EX B D d μ pc (a0 :: a1 :: a2 :: a3 :: a4 :: a5 :: a6 :: a7 :: a8 :: a9 :: a10 :: c :: c2 :: t) (.long x :: st) h r h1 :=
  px_lstore (i := 11) (ls := a0 :: a1 :: a2 :: a3 :: a4 :: a5 :: a6 :: a7 :: a8 :: a9 :: a10 :: c :: c2 :: t) (fun z hz he => by cases he; exact hb) (by show 11 + 1 < _; simp) hd kk
theorem px_astore11 {a0 a1 a2 a3 a4 a5 a6 a7 a8 a9 a10 : Option Value} {c : Option Value} {t : pm_Ls} {x : Nat} (hb : pm_nl a10 = true) (hd : decode μ.2.1 pc = .ok (.astore 11, 2)) (kk : EX B D d μ (pc + 2) (a0 :: a1 :: a2 :: a3 :: a4 :: a5 :: a6 :: a7 :: a8 :: a9 :: a10 :: some (.ref x) :: t) st h r h1) : EX B D d μ pc (a0 :: a1 :: a2 :: a3 :: a4 :: a5 :: a6 :: a7 :: a8 :: a9 :: a10 :: c :: t) (.ref x :: st) h r h1 :=
  px_astore (i := 11) (ls := a0 :: a1 :: a2 :: a3 :: a4 :: a5 :: a6 :: a7 :: a8 :: a9 :: a10 :: c :: t) (fun z hz he => by cases he; exact hb) (by show 11 < _; simp) hd kk
theorem px_astoreN11 {a0 a1 a2 a3 a4 a5 a6 a7 a8 a9 a10 : Option Value} {c : Option Value} {t : pm_Ls}  (hb : pm_nl a10 = true) (hd : decode μ.2.1 pc = .ok (.astore 11, 2)) (kk : EX B D d μ (pc + 2) (a0 :: a1 :: a2 :: a3 :: a4 :: a5 :: a6 :: a7 :: a8 :: a9 :: a10 :: some (.null) :: t) st h r h1) : EX B D d μ pc (a0 :: a1 :: a2 :: a3 :: a4 :: a5 :: a6 :: a7 :: a8 :: a9 :: a10 :: c :: t) (.null :: st) h r h1 :=
  px_astoreN (i := 11) (ls := a0 :: a1 :: a2 :: a3 :: a4 :: a5 :: a6 :: a7 :: a8 :: a9 :: a10 :: c :: t) (fun z hz he => by cases he; exact hb) (by show 11 < _; simp) hd kk
theorem px_iinc11 {a0 a1 a2 a3 a4 a5 a6 a7 a8 a9 a10 : Option Value} {t : pm_Ls} {n : Int} {x v : Int32} (hb : pm_nl a10 = true) (hc : x + Int32.ofInt n = v) (hd : decode μ.2.1 pc = .ok (.iinc 11 n, 3)) (kk : EX B D d μ (pc + 3) (a0 :: a1 :: a2 :: a3 :: a4 :: a5 :: a6 :: a7 :: a8 :: a9 :: a10 :: some (.int v) :: t) st h r h1) : EX B D d μ pc (a0 :: a1 :: a2 :: a3 :: a4 :: a5 :: a6 :: a7 :: a8 :: a9 :: a10 :: some (.int x) :: t) st h r h1 :=
  px_iinc (i := 11) (ls := a0 :: a1 :: a2 :: a3 :: a4 :: a5 :: a6 :: a7 :: a8 :: a9 :: a10 :: some (.int x) :: t) (fun z hz he => by cases he; exact hb) (by simp) hc hd kk
theorem px_istore12 {a0 a1 a2 a3 a4 a5 a6 a7 a8 a9 a10 a11 : Option Value} {c : Option Value} {t : pm_Ls} {x : Int32} (hb : pm_nl a11 = true) (hd : decode μ.2.1 pc = .ok (.istore 12, 2)) (kk : EX B D d μ (pc + 2) (a0 :: a1 :: a2 :: a3 :: a4 :: a5 :: a6 :: a7 :: a8 :: a9 :: a10 :: a11 :: some (.int x) :: t) st h r h1) : EX B D d μ pc (a0 :: a1 :: a2 :: a3 :: a4 :: a5 :: a6 :: a7 :: a8 :: a9 :: a10 :: a11 :: c :: t) (.int x :: st) h r h1 :=
  px_istore (i := 12) (ls := a0 :: a1 :: a2 :: a3 :: a4 :: a5 :: a6 :: a7 :: a8 :: a9 :: a10 :: a11 :: c :: t) (fun z hz he => by cases he; exact hb) (by show 12 < _; simp) hd kk
theorem px_lstore12 {a0 a1 a2 a3 a4 a5 a6 a7 a8 a9 a10 a11 : Option Value} {c c2 : Option Value} {t : pm_Ls} {x : Int64} (hb : pm_nl a11 = true) (hd : decode μ.2.1 pc = .ok (.lstore 12, 2)) (kk : EX B D d μ (pc + 2) (a0 :: a1 :: a2 :: a3 :: a4 :: a5 :: a6 :: a7 :: a8 :: a9 :: a10 :: a11 :: some (.long x) :: none :: t) st h r h1) : EX B D d μ pc (a0 :: a1 :: a2 :: a3 :: a4 :: a5 :: a6 :: a7 :: a8 :: a9 :: a10 :: a11 :: c :: c2 :: t) (.long x :: st) h r h1 :=
  px_lstore (i := 12) (ls := a0 :: a1 :: a2 :: a3 :: a4 :: a5 :: a6 :: a7 :: a8 :: a9 :: a10 :: a11 :: c :: c2 :: t) (fun z hz he => by cases he; exact hb) (by show 12 + 1 < _; simp) hd kk
theorem px_astore12 {a0 a1 a2 a3 a4 a5 a6 a7 a8 a9 a10 a11 : Option Value} {c : Option Value} {t : pm_Ls} {x : Nat} (hb : pm_nl a11 = true) (hd : decode μ.2.1 pc = .ok (.astore 12, 2)) (kk : EX B D d μ (pc + 2) (a0 :: a1 :: a2 :: a3 :: a4 :: a5 :: a6 :: a7 :: a8 :: a9 :: a10 :: a11 :: some (.ref x) :: t) st h r h1) : EX B D d μ pc (a0 :: a1 :: a2 :: a3 :: a4 :: a5 :: a6 :: a7 :: a8 :: a9 :: a10 :: a11 :: c :: t) (.ref x :: st) h r h1 :=
  px_astore (i := 12) (ls := a0 :: a1 :: a2 :: a3 :: a4 :: a5 :: a6 :: a7 :: a8 :: a9 :: a10 :: a11 :: c :: t) (fun z hz he => by cases he; exact hb) (by show 12 < _; simp) hd kk
theorem px_astoreN12 {a0 a1 a2 a3 a4 a5 a6 a7 a8 a9 a10 a11 : Option Value} {c : Option Value} {t : pm_Ls}  (hb : pm_nl a11 = true) (hd : decode μ.2.1 pc = .ok (.astore 12, 2)) (kk : EX B D d μ (pc + 2) (a0 :: a1 :: a2 :: a3 :: a4 :: a5 :: a6 :: a7 :: a8 :: a9 :: a10 :: a11 :: some (.null) :: t) st h r h1) : EX B D d μ pc (a0 :: a1 :: a2 :: a3 :: a4 :: a5 :: a6 :: a7 :: a8 :: a9 :: a10 :: a11 :: c :: t) (.null :: st) h r h1 :=
  px_astoreN (i := 12) (ls := a0 :: a1 :: a2 :: a3 :: a4 :: a5 :: a6 :: a7 :: a8 :: a9 :: a10 :: a11 :: c :: t) (fun z hz he => by cases he; exact hb) (by show 12 < _; simp) hd kk
theorem px_iinc12 {a0 a1 a2 a3 a4 a5 a6 a7 a8 a9 a10 a11 : Option Value} {t : pm_Ls} {n : Int} {x v : Int32} (hb : pm_nl a11 = true) (hc : x + Int32.ofInt n = v) (hd : decode μ.2.1 pc = .ok (.iinc 12 n, 3)) (kk : EX B D d μ (pc + 3) (a0 :: a1 :: a2 :: a3 :: a4 :: a5 :: a6 :: a7 :: a8 :: a9 :: a10 :: a11 :: some (.int v) :: t) st h r h1) : EX B D d μ pc (a0 :: a1 :: a2 :: a3 :: a4 :: a5 :: a6 :: a7 :: a8 :: a9 :: a10 :: a11 :: some (.int x) :: t) st h r h1 :=
  px_iinc (i := 12) (ls := a0 :: a1 :: a2 :: a3 :: a4 :: a5 :: a6 :: a7 :: a8 :: a9 :: a10 :: a11 :: some (.int x) :: t) (fun z hz he => by cases he; exact hb) (by simp) hc hd kk
theorem px_istore13 {a0 a1 a2 a3 a4 a5 a6 a7 a8 a9 a10 a11 a12 : Option Value} {c : Option Value} {t : pm_Ls} {x : Int32} (hb : pm_nl a12 = true) (hd : decode μ.2.1 pc = .ok (.istore 13, 2)) (kk : EX B D d μ (pc + 2) (a0 :: a1 :: a2 :: a3 :: a4 :: a5 :: a6 :: a7 :: a8 :: a9 :: a10 :: a11 :: a12 :: some (.int x) :: t) st h r h1) : EX B D d μ pc (a0 :: a1 :: a2 :: a3 :: a4 :: a5 :: a6 :: a7 :: a8 :: a9 :: a10 :: a11 :: a12 :: c :: t) (.int x :: st) h r h1 :=
  px_istore (i := 13) (ls := a0 :: a1 :: a2 :: a3 :: a4 :: a5 :: a6 :: a7 :: a8 :: a9 :: a10 :: a11 :: a12 :: c :: t) (fun z hz he => by cases he; exact hb) (by show 13 < _; simp) hd kk
theorem px_lstore13 {a0 a1 a2 a3 a4 a5 a6 a7 a8 a9 a10 a11 a12 : Option Value} {c c2 : Option Value} {t : pm_Ls} {x : Int64} (hb : pm_nl a12 = true) (hd : decode μ.2.1 pc = .ok (.lstore 13, 2)) (kk : EX B D d μ (pc + 2) (a0 :: a1 :: a2 :: a3 :: a4 :: a5 :: a6 :: a7 :: a8 :: a9 :: a10 :: a11 :: a12 :: some (.long x) :: none :: t) st h r h1) : EX B D d μ pc (a0 :: a1 :: a2 :: a3 :: a4 :: a5 :: a6 :: a7 :: a8 :: a9 :: a10 :: a11 :: a12 :: c :: c2 :: t) (.long x :: st) h r h1 :=
  px_lstore (i := 13) (ls := a0 :: a1 :: a2 :: a3 :: a4 :: a5 :: a6 :: a7 :: a8 :: a9 :: a10 :: a11 :: a12 :: c :: c2 :: t) (fun z hz he => by cases he; exact hb) (by show 13 + 1 < _; simp) hd kk
theorem px_astore13 {a0 a1 a2 a3 a4 a5 a6 a7 a8 a9 a10 a11 a12 : Option Value} {c : Option Value} {t : pm_Ls} {x : Nat} (hb : pm_nl a12 = true) (hd : decode μ.2.1 pc = .ok (.astore 13, 2)) (kk : EX B D d μ (pc + 2) (a0 :: a1 :: a2 :: a3 :: a4 :: a5 :: a6 :: a7 :: a8 :: a9 :: a10 :: a11 :: a12 :: some (.ref x) :: t) st h r h1) : EX B D d μ pc (a0 :: a1 :: a2 :: a3 :: a4 :: a5 :: a6 :: a7 :: a8 :: a9 :: a10 :: a11 :: a12 :: c :: t) (.ref x :: st) h r h1 :=
  px_astore (i := 13) (ls := a0 :: a1 :: a2 :: a3 :: a4 :: a5 :: a6 :: a7 :: a8 :: a9 :: a10 :: a11 :: a12 :: c :: t) (fun z hz he => by cases he; exact hb) (by show 13 < _; simp) hd kk
theorem px_astoreN13 {a0 a1 a2 a3 a4 a5 a6 a7 a8 a9 a10 a11 a12 : Option Value} {c : Option Value} {t : pm_Ls}  (hb : pm_nl a12 = true) (hd : decode μ.2.1 pc = .ok (.astore 13, 2)) (kk : EX B D d μ (pc + 2) (a0 :: a1 :: a2 :: a3 :: a4 :: a5 :: a6 :: a7 :: a8 :: a9 :: a10 :: a11 :: a12 :: some (.null) :: t) st h r h1) : EX B D d μ pc (a0 :: a1 :: a2 :: a3 :: a4 :: a5 :: a6 :: a7 :: a8 :: a9 :: a10 :: a11 :: a12 :: c :: t) (.null :: st) h r h1 :=
  px_astoreN (i := 13) (ls := a0 :: a1 :: a2 :: a3 :: a4 :: a5 :: a6 :: a7 :: a8 :: a9 :: a10 :: a11 :: a12 :: c :: t) (fun z hz he => by cases he; exact hb) (by show 13 < _; simp) hd kk
theorem px_iinc13 {a0 a1 a2 a3 a4 a5 a6 a7 a8 a9 a10 a11 a12 : Option Value} {t : pm_Ls} {n : Int} {x v : Int32} (hb : pm_nl a12 = true) (hc : x + Int32.ofInt n = v) (hd : decode μ.2.1 pc = .ok (.iinc 13 n, 3)) (kk : EX B D d μ (pc + 3) (a0 :: a1 :: a2 :: a3 :: a4 :: a5 :: a6 :: a7 :: a8 :: a9 :: a10 :: a11 :: a12 :: some (.int v) :: t) st h r h1) : EX B D d μ pc (a0 :: a1 :: a2 :: a3 :: a4 :: a5 :: a6 :: a7 :: a8 :: a9 :: a10 :: a11 :: a12 :: some (.int x) :: t) st h r h1 :=
  px_iinc (i := 13) (ls := a0 :: a1 :: a2 :: a3 :: a4 :: a5 :: a6 :: a7 :: a8 :: a9 :: a10 :: a11 :: a12 :: some (.int x) :: t) (fun z hz he => by cases he; exact hb) (by simp) hc hd kk
end PX
end
section
/-! rules for the heap and for calls -/
theorem pm_gw_of {w : Cond} (i : Nat) (h : lw_tbl[i]? = some w) (hg : goodWord w = true) : w ∈ pm_gw := List.mem_filter.mpr ⟨List.mem_of_getElem? h, hg⟩
def pm_okc (q : vw_C) : Prop := (∀ w ∈ u_ws q.1 q.2.1 q.2.2, w ∈ pm_gw) ∧ (∀ a, a < q.2.2 → ∀ b, b < q.2.2 → a ≠ b → (q.2.1 a).2.1 ≠ (q.2.1 b).2.1) ∧ ∃ ty : Nat → FieldType, ∀ k, k < q.2.2 → parseFieldDescriptor (q.2.1 k).2.2.1 = some (ty k)
theorem pm_ok0 : pm_okc (RX0, TX0, 11) := ⟨by decide +kernel, nmX0, tyX0, tyX0_ok⟩
theorem pm_ok1 : pm_okc (RX1, TX1, 5) := ⟨by decide +kernel, nmX1, tyX1, tyX1_ok⟩
theorem pm_ok2 : pm_okc (RX2, TX2, 3) := ⟨by decide +kernel, nmX2, tyX2, tyX2_ok⟩
theorem pm_ok3 : pm_okc (RX3, TX3, 2) := ⟨by decide +kernel, nmX3, tyX3, tyX3_ok⟩
theorem pm_ok4 : pm_okc (RX4, TX4, 7) := ⟨by decide +kernel, nmX4, tyX4, tyX4_ok⟩
theorem pm_ok5 : pm_okc (RX5, TX5, 4) := ⟨by decide +kernel, nmX5, tyX5, tyX5_ok⟩
theorem pm_ok6 : pm_okc (RX6, TX6, 7) := ⟨by decide +kernel, nmX6, tyX6, tyX6_ok⟩
theorem pm_ok7 : pm_okc (RX7, TX7, 29) := ⟨by decide +kernel, nmX7, tyX7, tyX7_ok⟩
theorem pm_cl_ok {ci : Nat} {q : vw_C} (h : pm_cl[ci]? = some q) : pm_okc q := by
  match ci with
  | 0 => cases h; exact pm_ok0
  | 1 => cases h; exact pm_ok1
  | 2 => cases h; exact pm_ok2
  | 3 => cases h; exact pm_ok3
  | 4 => cases h; exact pm_ok4
  | 5 => cases h; exact pm_ok5
  | 6 => cases h; exact pm_ok6
  | 7 => cases h; exact pm_ok7
  | _ + 8 => cases h
/-- place k of an object of class ci, as the class 'own' reads it by its entry i -/
def pm_fl (own : String) (i ci k : Nat) : Prop := ∃ q : vw_C, pm_cl[ci]? = some q ∧ k < q.2.2 ∧ (q.2.1 k).1 = q.1 ∧ Cond.fieldLink own i q.1 (q.2.1 k).2.1 (q.2.1 k).2.2.1 ∈ pm_gw
/-- and writes it: of type ty; fin: it is final -/
def pm_fp (own : String) (i ci k : Nat) (fin : Bool) (ty : FieldType) : Prop := ∃ q : vw_C, pm_cl[ci]? = some q ∧ k < q.2.2 ∧ (q.2.1 k).1 = q.1 ∧ Cond.fieldLink own i q.1 (q.2.1 k).2.1 (q.2.1 k).2.2.1 ∈ pm_gw ∧ (q.2.1 k).2.2.2 = fin ∧ parseFieldDescriptor (q.2.1 k).2.2.1 = some ty
theorem pm_one {D : va_G} {a : Nat} {e : va_E} {H : Heap} (h : va_at D pm_cl (a, e) H) : va_P D pm_cl [(a, e)] H := by
  intro k q hk
  match k with
  | 0 => cases hk; exact h
  | _ + 1 => cases hk
theorem pm_rin {i : Int32} {n : Nat} (h : 0 ≤ i.toInt ∧ i.toInt < n) : vp_in i n := vp_in_iff.mpr h
theorem pm_arr {B : Nat} {D : va_G} {s : State} {a t : Nat} {x : vp_A} {H : Heap} (h : pm_at B D s a (.inl (t, x)) H) (ht : t ≠ 9) : B ≤ a ∧ ∃ cA : ClassId, ArrOfT s cA (pm_ty t) ∧ va_RA s cA (pm_ty t) ∧ H[a]? = some (vp_cell cA x) := by
  unfold pm_at at h
  dsimp only at h
  rw [if_neg ht] at h
  exact h
theorem pm_arr' {B : Nat} {D : va_G} {s : State} {a t : Nat} {x : vp_A} {H : Heap} (ht : t ≠ 9) (h : B ≤ a ∧ ∃ cA : ClassId, ArrOfT s cA (pm_ty t) ∧ va_RA s cA (pm_ty t) ∧ H[a]? = some (vp_cell cA x)) : pm_at B D s a (.inl (t, x)) H := by
  unfold pm_at
  dsimp only
  rw [if_neg ht]
  exact h
theorem pm_scr {B : Nat} {D : va_G} {s : State} {a L : Nat} {xs : Nat → Int32} {H : Heap} (h : pm_at B D s a (.inl (9, L, .inl xs)) H) : va_X a L xs s H := by
  unfold pm_at at h
  dsimp only at h
  rw [if_pos rfl] at h
  obtain ⟨-, L', xs', he, hX⟩ := h
  cases he
  exact hX
theorem pm_K1 {D : va_G} {s : State} {cA : ClassId} {ty : FieldType} (hK : va_K D pm_cl [] s) (h1 : ArrOfT s cA ty) (h2 : va_RA s cA ty) : va_K D pm_cl [(cA, ty)] s := by
  refine ⟨hK.1, fun k q hk => ?_⟩
  match k with
  | 0 => cases hk; exact ⟨h1, h2⟩
  | _ + 1 => cases hk
section PY
variable {B : Nat} {D : va_G} {d : Nat} {μ : pm_M} {pc : Nat} {ls : pm_Ls} {st : List Value} {n w : Nat} {f : Nat → Option va_E} {r : Option Value} {h1 : pm_H}
theorem px_getfield {i ci k a : Nat} {fs : List Value} {v : Value} (hF : pm_fl μ.1.cls i ci k) (hd : decode μ.2.1 pc = .ok (.getfield i, 3)) (ha : f a = some (.inr (ci, fs))) (hv : fs[k]? = some v) (kk : EX B D d μ (pc + 3) ls (v :: st) (n, w, f) r h1) : EX B D d μ pc ls (.ref a :: st) (n, w, f) r h1 := by
  refine ⟨kk.1, fun p l e R s m args below meth c H locs lsA n0 w0 Q cx hl hR hlo e1 e2 e3 e4 hq => ?_⟩
  obtain ⟨q, hqq, hk, hO, hlk⟩ := hF
  have hP := pm_one (hR.2.2 a _ ha).2
  exact va_get cx.1 cx.2.1 cx.2.2.2.2.2.1 (pm_cl_ok hqq).1 cx.2.2.2.2.1 cx.2.2.2.2.2.2.2.2.1.1 hP 0 rfl hqq k hk (cx.2.2.2.2.2.1 _ hlk) (fun x hx => by rw [hO] at hx; exact hx) hv hd (kk.2 p l e R s m args below meth c H locs lsA n0 w0 Q cx hl hR hlo e1 e2 e3 e4 hq)
theorem px_putfield {i ci k a : Nat} {fs : List Value} {v : Value} {ty : FieldType} (hF : pm_fp μ.1.cls i ci k false ty) (hd : decode μ.2.1 pc = .ok (.putfield i, 3)) (ha : f a = some (.inr (ci, fs))) (hn : narrow ty v = v) (hfit : fits ty v = true) (hlen : k < fs.length) (kk : EX B D d μ (pc + 3) ls st (n, w, va_up f a (some (.inr (ci, fs.set k v)))) r h1) : EX B D d μ pc ls (v :: .ref a :: st) (n, w, f) r h1 := by
  refine ⟨kk.1, fun p l e R s m args below meth c H locs lsA n0 w0 Q cx hl hR hlo e1 e2 e3 e4 hq => ?_⟩
  obtain ⟨⟨C, T, N⟩, hc, hk, hO, hlk, hfin, hdty⟩ := hF
  dsimp only at hk hO hlk hfin hdty
  obtain ⟨hin, hnm, ty0, hty⟩ := pm_cl_ok hc
  have hx := cx.1
  have hb := cx.2.1
  have hown := cx.2.2.2.2.1
  have hts := cx.2.2.2.2.2.1
  have hK := cx.2.2.2.2.2.2.2.2.1.1
  obtain ⟨hBa, hat⟩ := hR.2.2 a _ ha
  obtain ⟨q', h1', cell, q1, q2, q3, q4⟩ := hat
  have hr : q' = (C, T, N) := Option.some.inj (h1'.symm.trans hc)
  subst hr
  have hap := va_apart (own := μ.1.cls) hts hin ty0 hty hnm hK hc
  obtain ⟨hS, hfc, kC, hkC, hkind⟩ := hK.1 ci _ hc
  obtain ⟨cf, kf, fi, fd, hi, hsl⟩ := hS k hk
  have hlay := hts _ (hin _ (u_in_lay hk))
  unfold u_lay at hlay
  rw [if_neg (by rw [hfin]; decide)] at hlay
  have hst := (u_facts hfc hkC (u_lays hts hin hk) hi).1
  have h6 := u_store hfc hkC hkind hlay hi hdty hn hfit
  refine W.putK hx hb (f := fd) ⟨hown, hts _ hlk, ⟨_, _, _, by rw [hO] at hi; exact hi⟩, hst⟩ (by rw [q2]; exact h6) q1 q3 (by rw [hsl]; exact k2_hasslot (q4 k hk)) rfl rfl hd fun H' g1 g2 g3 => ?_
  rw [hsl] at g1 ⊢
  refine kk.2 p l e R s m args below meth c H' _ lsA n0 w0 Q cx hl (hR.set ⟨hBa, _, hc, t_OB.to (V := updV (vp_V fs) k v) ⟨_, g1, q2, q3, t_set q4 hap hk v⟩ (fun j _ => vp_updV_set hlen v j)⟩ g2 g3) (fun q hq => ?_) e1 e2 e3 e4 hq
  rcases List.mem_append.mp hq with h | h
  · exact hlo q h
  · rw [List.mem_singleton.mp h]; exact hBa
theorem px_putfieldF {i ci k a : Nat} {fs : List Value} {v : Value} {ty : FieldType} (hF : pm_fp μ.1.cls i ci k true ty) (hin2 : μ.1.name = "<init>") (hcc : (pm_cl[ci]?).map (fun q => q.1) = some μ.1.cls) (hd : decode μ.2.1 pc = .ok (.putfield i, 3)) (ha : f a = some (.inr (ci, fs))) (hn : narrow ty v = v) (hfit : fits ty v = true) (hlen : k < fs.length) (kk : EX B D d μ (pc + 3) ls st (n, w, va_up f a (some (.inr (ci, fs.set k v)))) r h1) : EX B D d μ pc ls (v :: .ref a :: st) (n, w, f) r h1 := by
  refine ⟨kk.1, fun p l e R s m args below meth c H locs lsA n0 w0 Q cx hl hR hlo e1 e2 e3 e4 hq => ?_⟩
  obtain ⟨⟨C, T, N⟩, hc, hk, hO, hlk, hfin, hdty⟩ := hF
  dsimp only at hk hO hlk hfin hdty
  rw [hc] at hcc
  have hCown : C = μ.1.cls := Option.some.inj hcc
  obtain ⟨hin, hnm, ty0, hty⟩ := pm_cl_ok hc
  have hx := cx.1
  have hb := cx.2.1
  have hown := cx.2.2.2.2.1
  have hts := cx.2.2.2.2.2.1
  have hname := cx.2.2.2.2.2.2.2.1
  have hK := cx.2.2.2.2.2.2.2.2.1.1
  obtain ⟨hBa, hat⟩ := hR.2.2 a _ ha
  obtain ⟨q', h1', cell, q1, q2, q3, q4⟩ := hat
  have hr : q' = (C, T, N) := Option.some.inj (h1'.symm.trans hc)
  subst hr
  have hap := va_apart (own := μ.1.cls) hts hin ty0 hty hnm hK hc
  obtain ⟨hS, hfc, kC, hkC, hkind⟩ := hK.1 ci _ hc
  obtain ⟨cf, kf, fi, fd, hi, hsl⟩ := hS k hk
  have hlay := hts _ (hin _ (u_in_lay hk))
  unfold u_lay at hlay
  rw [if_pos hfin] at hlay
  have hst := (u_facts hfc hkC (u_lays hts hin hk) hi).1
  have hcf : m.cls = cf := by
    obtain ⟨_, _, c', _, _, _, -, -, hf', -, -, -, hown2, -⟩ := Cond.laysFinal_spec hlay
    have e1 : c' = cf := by have := hi.symm.trans hf'; simp at this; exact this.1.symm
    rw [hO, hCown] at hown2
    rw [← e1]; exact Option.some.inj (hown.symm.trans hown2)
  have h6 := u_fits hfc hkC hkind (Or.inr hlay) hi hdty hn hfit
  refine W.putFinK hx hb hown (hts _ hlk) (by rw [hO] at hi; exact hi) hst hcf (hname.trans hin2) (by rw [q2]; exact h6) q1 q3 (by rw [hsl]; exact k2_hasslot (q4 k hk)) rfl rfl hd fun H' g1 g2 g3 => ?_
  rw [hsl] at g1 ⊢
  refine kk.2 p l e R s m args below meth c H' _ lsA n0 w0 Q cx hl (hR.set ⟨hBa, _, hc, t_OB.to (V := updV (vp_V fs) k v) ⟨_, g1, q2, q3, t_set q4 hap hk v⟩ (fun j _ => vp_updV_set hlen v j)⟩ g2 g3) (fun q hq => ?_) e1 e2 e3 e4 hq
  rcases List.mem_append.mp hq with h | h
  · exact hlo q h
  · rw [List.mem_singleton.mp h]; exact hBa
theorem px_iaload {a m : Nat} {g : Nat → Int32} {i : Int32} (hd : decode μ.2.1 pc = .ok (.iaload, 1)) (ha : f a = some (.inl (0, m, .inl g))) (hi : 0 ≤ i.toInt ∧ i.toInt < m) (kk : EX B D d μ (pc + 1) ls (.int (g i.toNatClampNeg) :: st) (n, w, f) r h1) : EX B D d μ pc ls (.int i :: .ref a :: st) (n, w, f) r h1 := by
  refine ⟨kk.1, fun p l e R s m args below meth c H locs lsA n0 w0 Q cx hl hR hlo e1 e2 e3 e4 hq => ?_⟩
  obtain ⟨hBa, cA, hA, hRA, hc⟩ := pm_arr (hR.2.2 a _ ha) (by decide)
  exact va_iald cx.1 cx.2.1 (pm_K1 cx.2.2.2.2.2.2.2.2.1.1 hA hRA) (pm_one (e := .inl (cA, _, .inl g)) hc) 0 0 rfl rfl (pm_rin hi) hd (kk.2 p l e R s m args below meth c H locs lsA n0 w0 Q cx hl hR hlo e1 e2 e3 e4 hq)
theorem px_saload {a m : Nat} {g : Nat → Int32} {i : Int32} (hd : decode μ.2.1 pc = .ok (.iaload, 1)) (ha : f a = some (.inl (9, m, .inl g))) (hi : 0 ≤ i.toInt ∧ i.toInt < m) (kk : EX B D d μ (pc + 1) ls (.int (g i.toNatClampNeg) :: st) (n, w, f) r h1) : EX B D d μ pc ls (.int i :: .ref a :: st) (n, w, f) r h1 := by
  refine ⟨kk.1, fun p l e R s m args below meth c H locs lsA n0 w0 Q cx hl hR hlo e1 e2 e3 e4 hq => ?_⟩
  obtain ⟨scr, g1, g2, g3, g4, g5⟩ := pm_scr (hR.2.2 a _ ha)
  have hin := pm_rin hi
  have hlt : i.toNatClampNeg < _ := Nat.not_le.mp fun q => hin (Or.inr q)
  exact W.iald (v := .int (g i.toNatClampNeg)) cx.1 cx.2.1 g1 g2 g3 (by rw [g4]; exact hin) (g5 _ hlt) rfl rfl hd (kk.2 p l e R s m args below meth c H locs lsA n0 w0 Q cx hl hR hlo e1 e2 e3 e4 hq)
theorem px_laload {a m : Nat} {g : Nat → Int64} {i : Int32} (hd : decode μ.2.1 pc = .ok (.laload, 1)) (ha : f a = some (.inl (1, m, .inr (.inl g)))) (hi : 0 ≤ i.toInt ∧ i.toInt < m) (kk : EX B D d μ (pc + 1) ls (.long (g i.toNatClampNeg) :: st) (n, w, f) r h1) : EX B D d μ pc ls (.int i :: .ref a :: st) (n, w, f) r h1 := by
  refine ⟨kk.1, fun p l e R s m args below meth c H locs lsA n0 w0 Q cx hl hR hlo e1 e2 e3 e4 hq => ?_⟩
  obtain ⟨hBa, cA, hA, hRA, hc⟩ := pm_arr (hR.2.2 a _ ha) (by decide)
  exact va_lald cx.1 cx.2.1 (pm_K1 cx.2.2.2.2.2.2.2.2.1.1 hA hRA) (pm_one (e := .inl (cA, _, .inr (.inl g))) hc) 0 0 rfl rfl (pm_rin hi) hd (kk.2 p l e R s m args below meth c H locs lsA n0 w0 Q cx hl hR hlo e1 e2 e3 e4 hq)
theorem px_baload {a m : Nat} {g : Nat → Int32} {i : Int32} (hd : decode μ.2.1 pc = .ok (.baload, 1)) (ha : f a = some (.inl (2, m, .inl g))) (hi : 0 ≤ i.toInt ∧ i.toInt < m) (kk : EX B D d μ (pc + 1) ls (.int (g i.toNatClampNeg) :: st) (n, w, f) r h1) : EX B D d μ pc ls (.int i :: .ref a :: st) (n, w, f) r h1 := by
  refine ⟨kk.1, fun p l e R s m args below meth c H locs lsA n0 w0 Q cx hl hR hlo e1 e2 e3 e4 hq => ?_⟩
  obtain ⟨hBa, cA, hA, hRA, hc⟩ := pm_arr (hR.2.2 a _ ha) (by decide)
  have hin := pm_rin hi
  have hlt : i.toNatClampNeg < _ := Nat.not_le.mp fun q => hin (Or.inr q)
  exact W.zald (v := .int (g i.toNatClampNeg)) cx.1 cx.2.1 hc (hA _ (fun j => .int (g j))) (fun q => by cases q) (by show ¬ (i < 0 ∨ (arrV _ _ _).slots.size ≤ _); rw [arrV_size]; exact hin) (by show (arrV _ _ _).slots[_]? = _; rw [arrV_read _ _ hlt]) rfl rfl hd (kk.2 p l e R s m args below meth c H locs lsA n0 w0 Q cx hl hR hlo e1 e2 e3 e4 hq)
theorem px_aaload {a t m : Nat} {C : String} {g : Nat → Option Nat} {i : Int32} (hC : pm_ty t = .object C) (hd : decode μ.2.1 pc = .ok (.aaload, 1)) (ha : f a = some (.inl (t, m, .inr (.inr (.inr (.inr g)))))) (ht : t ≠ 9) (hi : 0 ≤ i.toInt ∧ i.toInt < m) (kk : EX B D d μ (pc + 1) ls (va_rf (g i.toNatClampNeg) :: st) (n, w, f) r h1) : EX B D d μ pc ls (.int i :: .ref a :: st) (n, w, f) r h1 := by
  refine ⟨kk.1, fun p l e R s m args below meth c H locs lsA n0 w0 Q cx hl hR hlo e1 e2 e3 e4 hq => ?_⟩
  obtain ⟨hBa, cA, hA, hRA, hc⟩ := pm_arr (hR.2.2 a _ ha) ht
  rw [hC] at hA hRA
  exact va_aldq cx.1 cx.2.1 (pm_K1 cx.2.2.2.2.2.2.2.2.1.1 hA hRA) (pm_one (e := .inl (cA, _, .inr (.inr (.inr (.inr g))))) hc) 0 0 rfl rfl (pm_rin hi) hd (kk.2 p l e R s m args below meth c H locs lsA n0 w0 Q cx hl hR hlo e1 e2 e3 e4 hq)
theorem px_alen {a t : Nat} {x : vp_A} {v : Int32} (hv : Int32.ofNat x.1 = v) (hd : decode μ.2.1 pc = .ok (.arraylength, 1)) (ha : f a = some (.inl (t, x))) (ht : t ≠ 9) (kk : EX B D d μ (pc + 1) ls (.int v :: st) (n, w, f) r h1) : EX B D d μ pc ls (.ref a :: st) (n, w, f) r h1 := by
  refine ⟨kk.1, fun p l e R s m args below meth c H locs lsA n0 w0 Q cx hl hR hlo e1 e2 e3 e4 hq => ?_⟩
  obtain ⟨hBa, cA, hA, hRA, hc⟩ := pm_arr (hR.2.2 a _ ha) ht
  exact va_alen cx.1 cx.2.1 (pm_K1 cx.2.2.2.2.2.2.2.2.1.1 hA hRA) (pm_one (e := .inl (cA, x)) hc) 0 0 rfl rfl hv hd (kk.2 p l e R s m args below meth c H locs lsA n0 w0 Q cx hl hR hlo e1 e2 e3 e4 hq)
theorem px_slen {a m : Nat} {g : Nat → Int32} (hd : decode μ.2.1 pc = .ok (.arraylength, 1)) (ha : f a = some (.inl (9, m, .inl g))) (kk : EX B D d μ (pc + 1) ls (.int (Int32.ofNat m) :: st) (n, w, f) r h1) : EX B D d μ pc ls (.ref a :: st) (n, w, f) r h1 := by
  refine ⟨kk.1, fun p l e R s m args below meth c H locs lsA n0 w0 Q cx hl hR hlo e1 e2 e3 e4 hq => ?_⟩
  obtain ⟨scr, g1, g2, g3, g4, g5⟩ := pm_scr (hR.2.2 a _ ha)
  exact W.alen (n := Int32.ofNat _) cx.1 cx.2.1 g1 g2 (by rw [g4] <;> rfl) rfl rfl hd (kk.2 p l e R s m args below meth c H locs lsA n0 w0 Q cx hl hR hlo e1 e2 e3 e4 hq)
theorem pm_lo {B a : Nat} {locs : List Loc} {k : Nat} (hlo : ∀ q ∈ locs, B ≤ q.base) (h : B ≤ a) : ∀ q ∈ locs ++ [(⟨a, k⟩ : Loc)], B ≤ q.base := by
  intro q hq
  rcases List.mem_append.mp hq with g | g
  · exact hlo q g
  · rw [List.mem_singleton.mp g]; exact h
theorem px_iastore {a m : Nat} {g : Nat → Int32} {i x : Int32} (hd : decode μ.2.1 pc = .ok (.iastore, 1)) (ha : f a = some (.inl (0, m, .inl g))) (hi : 0 ≤ i.toInt ∧ i.toInt < m) (kk : EX B D d μ (pc + 1) ls st (n, w, va_up f a (some (.inl (0, m, .inl (va_up g i.toNatClampNeg x))))) r h1) : EX B D d μ pc ls (.int x :: .int i :: .ref a :: st) (n, w, f) r h1 := by
  refine ⟨kk.1, fun p l e R s m' args below meth c H locs lsA n0 w0 Q cx hl hR hlo e1 e2 e3 e4 hq => ?_⟩
  obtain ⟨hBa, cA, hA, hRA, hc⟩ := pm_arr (hR.2.2 a _ ha) (by decide)
  have hin := pm_rin hi
  refine W.iast cx.1 cx.2.1 hc (hA m (fun j => .int (g j))) (fun q => by cases q) (by show ¬ (i < 0 ∨ (arrV _ _ _).slots.size ≤ _); rw [arrV_size]; exact hin) rfl rfl hd fun H1 g1 z oq => ?_
  refine kk.2 p l e R s m' args below meth c H1 _ lsA n0 w0 Q cx hl (hR.set (pm_arr' (by decide) ⟨hBa, cA, hA, hRA, ?_⟩) z oq) (pm_lo hlo hBa) e1 e2 e3 e4 hq
  rw [g1, vp_cell_i, vp_cell_i, arrV_store]
  congr 2
  funext q
  by_cases hq : q = i.toNatClampNeg
  · subst hq
    simp [updV, va_up]
  · simp [updV, va_up, hq]
theorem px_lastore {a m : Nat} {g : Nat → Int64} {i : Int32} {x : Int64} (hd : decode μ.2.1 pc = .ok (.lastore, 1)) (ha : f a = some (.inl (1, m, .inr (.inl g)))) (hi : 0 ≤ i.toInt ∧ i.toInt < m) (kk : EX B D d μ (pc + 1) ls st (n, w, va_up f a (some (.inl (1, m, .inr (.inl (va_up g i.toNatClampNeg x)))))) r h1) : EX B D d μ pc ls (.long x :: .int i :: .ref a :: st) (n, w, f) r h1 := by
  refine ⟨kk.1, fun p l e R s m' args below meth c H locs lsA n0 w0 Q cx hl hR hlo e1 e2 e3 e4 hq => ?_⟩
  obtain ⟨hBa, cA, hA, hRA, hc⟩ := pm_arr (hR.2.2 a _ ha) (by decide)
  have hin := pm_rin hi
  refine W.last cx.1 cx.2.1 hc (hA m (fun j => .long (g j))) (fun q => by cases q) (by show ¬ (i < 0 ∨ (arrV _ _ _).slots.size ≤ _); rw [arrV_size]; exact hin) rfl rfl hd fun H1 g1 z oq => ?_
  refine kk.2 p l e R s m' args below meth c H1 _ lsA n0 w0 Q cx hl (hR.set (pm_arr' (by decide) ⟨hBa, cA, hA, hRA, ?_⟩) z oq) (pm_lo hlo hBa) e1 e2 e3 e4 hq
  rw [g1, vp_cell_l, vp_cell_l, arrV_store]
  congr 2
  funext q
  by_cases hq : q = i.toNatClampNeg
  · subst hq
    simp [updV, va_up]
  · simp [updV, va_up, hq]
theorem px_bastore {a m : Nat} {g : Nat → Int32} {i x : Int32} (hd : decode μ.2.1 pc = .ok (.bastore, 1)) (ha : f a = some (.inl (2, m, .inl g))) (hi : 0 ≤ i.toInt ∧ i.toInt < m) (hxx : x = 0 ∨ x = 1) (kk : EX B D d μ (pc + 1) ls st (n, w, va_up f a (some (.inl (2, m, .inl (va_up g i.toNatClampNeg x))))) r h1) : EX B D d μ pc ls (.int x :: .int i :: .ref a :: st) (n, w, f) r h1 := by
  refine ⟨kk.1, fun p l e R s m' args below meth c H locs lsA n0 w0 Q cx hl hR hlo e1 e2 e3 e4 hq => ?_⟩
  obtain ⟨hBa, cA, hA, hRA, hc⟩ := pm_arr (hR.2.2 a _ ha) (by decide)
  have hin := pm_rin hi
  refine W.zast cx.1 cx.2.1 hc (hA m (fun j => .int (g j))) (fun q => by cases q) (by show ¬ (i < 0 ∨ (arrV _ _ _).slots.size ≤ _); rw [arrV_size]; exact hin) rfl rfl hd fun H1 g1 z oq => ?_
  refine kk.2 p l e R s m' args below meth c H1 _ lsA n0 w0 Q cx hl (hR.set (pm_arr' (by decide) ⟨hBa, cA, hA, hRA, ?_⟩) z oq) (pm_lo hlo hBa) e1 e2 e3 e4 hq
  rw [g1, pm_bool_nar hxx, vp_cell_i, vp_cell_i, arrV_store]
  congr 2
  funext q
  by_cases hq : q = i.toNatClampNeg
  · subst hq
    simp [updV, va_up]
  · simp [updV, va_up, hq]
theorem px_aastore {a t m v ci : Nat} {q : vw_C} {vs : List Value} {g : Nat → Option Nat} {i : Int32} (hq0 : pm_cl[ci]? = some q) (hC : pm_ty t = .object q.1) (hd : decode μ.2.1 pc = .ok (.aastore, 1)) (ha : f a = some (.inl (t, m, .inr (.inr (.inr (.inr g)))))) (ht : t ≠ 9) (hi : 0 ≤ i.toInt ∧ i.toInt < m) (hv : f v = some (.inr (ci, vs))) (kk : EX B D d μ (pc + 1) ls st (n, w, va_up f a (some (.inl (t, m, .inr (.inr (.inr (.inr (va_up g i.toNatClampNeg (some v))))))))) r h1) : EX B D d μ pc ls (.ref v :: .int i :: .ref a :: st) (n, w, f) r h1 := by
  refine ⟨kk.1, fun p l e R s m' args below meth c H locs lsA n0 w0 Q cx hl hR hlo e1 e2 e3 e4 hq => ?_⟩
  obtain ⟨hBa, cA, hA, hRA, hc⟩ := pm_arr (hR.2.2 a _ ha) ht
  have hRA' := hRA
  rw [hC] at hRA'
  have hin := pm_rin hi
  have hlt : i.toNatClampNeg < m := Nat.not_le.mp fun q => hin (Or.inr q)
  have h0 : ¬ i < 0 := fun q => hin (Or.inl q)
  obtain ⟨-, r', hr', cellV, g1, g2, g3, -⟩ := hR.2.2 v _ hv
  have hcls := (cx.2.2.2.2.2.2.2.2.1.1.1 ci q hq0).2
  obtain ⟨kA, comp, k1, k2, k3, -⟩ := hRA'
  have hcomp : comp = D.1 ci := Option.some.inj (k3.symm.trans hcls.1)
  subst hcomp
  obtain ⟨kC, hkC, -⟩ := hcls.2
  refine W.aast cx.1 cx.2.1 hc (fun q h => by cases h) (fun h => by cases h) k1 k2 rfl hkC ⟨h0, by show _ < (arrV _ _ _).slots.size; rw [arrV_size]; exact hlt⟩ g1 (fun q h => by rw [g3] at h; cases h) (by rw [g2]; exact hkC) (by rw [g2]; exact va_assign hcls) rfl rfl hd fun H1 g4 z oq => ?_
  refine kk.2 p l e R s m' args below meth c H1 _ lsA n0 w0 Q cx hl (hR.set (pm_arr' ht ⟨hBa, cA, hA, hRA, ?_⟩) z oq) (pm_lo hlo hBa) e1 e2 e3 e4 hq
  rw [g4, vp_cell_q, vp_cell_q, arrV_store]
  congr 2
  funext q
  by_cases hq : q = i.toNatClampNeg
  · subst hq
    simp [updV, va_up, va_rf]
  · simp [updV, va_up, hq]
theorem px_aastoreN {a t m : Nat} {C : String} {g : Nat → Option Nat} {i : Int32} (hC : pm_ty t = .object C) (hd : decode μ.2.1 pc = .ok (.aastore, 1)) (ha : f a = some (.inl (t, m, .inr (.inr (.inr (.inr g)))))) (ht : t ≠ 9) (hi : 0 ≤ i.toInt ∧ i.toInt < m) (kk : EX B D d μ (pc + 1) ls st (n, w, va_up f a (some (.inl (t, m, .inr (.inr (.inr (.inr (va_up g i.toNatClampNeg none)))))))) r h1) : EX B D d μ pc ls (.null :: .int i :: .ref a :: st) (n, w, f) r h1 := by
  refine ⟨kk.1, fun p l e R s m' args below meth c H locs lsA n0 w0 Q cx hl hR hlo e1 e2 e3 e4 hq => ?_⟩
  obtain ⟨hBa, cA, hA, hRA, hc⟩ := pm_arr (hR.2.2 a _ ha) ht
  have hA' := hA
  rw [hC] at hA'
  have hin := pm_rin hi
  refine va_WaastN (C := C) cx.1 cx.2.1 hc (hA' m (fun j => va_rf (g j))) (fun h => by cases h) (by show ¬ (i < 0 ∨ (arrV _ _ _).slots.size ≤ _); rw [arrV_size]; exact hin) rfl rfl hd fun H1 g4 z oq => ?_
  refine kk.2 p l e R s m' args below meth c H1 _ lsA n0 w0 Q cx hl (hR.set (pm_arr' ht ⟨hBa, cA, hA, hRA, ?_⟩) z oq) (pm_lo hlo hBa) e1 e2 e3 e4 hq
  rw [g4, vp_cell_q, vp_cell_q, arrV_store]
  congr 2
  funext q
  by_cases hq : q = i.toNatClampNeg
  · subst hq
    simp [updV, va_up, va_rf]
  · simp [updV, va_up, hq]
end PY
end
section
/-! what is made; calls -/
theorem pm_gw_good : ∀ w ∈ pm_gw, (w.onTables && w.keeps) = true ∨ ∃ ty, w = .arrayClass ty := fun _ h => good_of_word (List.mem_filter.mp h).2
/-- a method's own words -/
def pm_mok (ν : pm_M) (k : Nat) : Prop := Cond.code ν.1 ν.2.1 ν.2.2.1 ν.2.2.2 ∈ pm_gw ∧ Cond.initialized ν.1.cls ∈ pm_gw ∧ (ν.1.cls ≠ "java/lang/invoke/MethodHandle" ∧ ν.1.cls ≠ "java/lang/invoke/VarHandle") ∧ (parseMethodDescriptor ν.1.desc).map (fun d => d.parameters.length) = some k ∧ ν.2.2.1 ≤ 20
def pm_lkN (own : String) (i : Nat) (y : MethodName) : Prop := ∃ host : String, Cond.methodLinkNest own i y host ∈ lw_tbl
theorem pm_defq (N : Nat) : (fun j => Value.int ((fun _ : Nat => (0 : Int32)) j)) = (fun _ : Nat => defaultValue .int) := rfl
section PZ
variable {B : Nat} {D : va_G} {d : Nat} {μ : pm_M} {pc : Nat} {ls : pm_Ls} {st : List Value} {n w : Nat} {f : Nat → Option va_E} {r : Option Value} {h1 : pm_H}
theorem px_new {i ci N : Nat} {C : String} {T : u_T} {fs : List Value} (hc : pm_cl[ci]? = some (C, T, N)) (hl : Cond.classLink μ.1.cls i C ∈ pm_gw) (hi : Cond.instantiable C N ∈ pm_gw) (hini : Cond.initialized C ∈ pm_gw) (ty : Nat → FieldType) (hty : ∀ k, k < N → parseFieldDescriptor (T k).2.2.1 = some (ty k)) (hfs : ∀ j, j < N → defaultValue (ty j) = vp_V fs j) (hd : decode μ.2.1 pc = .ok (.new i, 3))
    (kk : EX B D d μ (pc + 3) ls (.ref n :: st) (n + 1, w + N, va_up f n (some (.inr (ci, fs)))) r h1) : EX B D d μ pc ls st (n, w, f) r h1 := by
  have k1 : n + 1 ≤ h1.1 := kk.1.1
  have k2 : w + N ≤ h1.2.1 := kk.1.2
  refine ⟨⟨by show n ≤ h1.1; omega, by show w ≤ h1.2.1; omega⟩, fun p l e R s m args below meth c H locs lsA n0 w0 Q cx hl' hR hlo e1 e2 e3 e4 hq => ?_⟩
  have hKn := cx.2.2.2.2.2.2.2.2.1.1.1 ci _ hc
  have hts := cx.2.2.2.2.2.1
  dsimp only at e1 e2 ⊢
  refine W.newcK cx.1 cx.2.1 cx.2.2.2.2.1 (hts _ hl) (hts _ hi) (hts _ hini) rfl hd (by omega) (by omega) hKn.2.1 hR.1 fun H1 kC hkC g1 z1 o1 => ?_
  refine W.cs (cells' := (n + 1) - n0) (slots' := (w + N) - w0) (by omega) (by omega) ?_
  refine kk.2 p l e R s m args below meth c H1 locs lsA n0 w0 Q cx hl' (hR.push ⟨hR.2.1, _, hc, (u_born ty hts (pm_cl_ok hc).1 hKn hkC g1 hty).to hfs⟩ z1 o1) hlo (by show n0 ≤ n + 1; omega) (by show w0 ≤ w + N; omega) e3 e4 hq
theorem px_newarr {at_ : ArrayType} {t k : Nat} {g : vp_A} {x : Int32} (ht : newarray.typeOf at_ = pm_ty t) (ht9 : t ≠ 9) (hA : Cond.arrayClass (newarray.typeOf at_) ∈ pm_gw) (hg : ∀ cA : ClassId, vp_cell cA g = arrV cA k (fun _ => defaultValue (newarray.typeOf at_))) (hRA : ∀ (s : State) (cA : ClassId), s.vm.findClass ("[" ++ (newarray.typeOf at_).toString) = some cA → va_RA s cA (newarray.typeOf at_)) (hx0 : ¬ x < 0) (hxk : x.toNatClampNeg = k) (hby : k * componentBytes (newarray.typeOf at_) ≤ 536870912) (hd : decode μ.2.1 pc = .ok (.newarray at_, 2))
    (kk : EX B D d μ (pc + 2) ls (.ref n :: st) (n + 1, w + k, va_up f n (some (.inl (t, g)))) r h1) : EX B D d μ pc ls (.int x :: st) (n, w, f) r h1 := by
  have k1 : n + 1 ≤ h1.1 := kk.1.1
  have k2 : w + k ≤ h1.2.1 := kk.1.2
  refine ⟨⟨by show n ≤ h1.1; omega, by show w ≤ h1.2.1; omega⟩, fun p l e R s m args below meth c H locs lsA n0 w0 Q cx hl' hR hlo e1 e2 e3 e4 hq => ?_⟩
  have hts := cx.2.2.2.2.2.1
  dsimp only at e1 e2 ⊢
  refine va_newaK cx.1 cx.2.1 (hts _ hA) rfl hd rfl hx0 hxk hby (by omega) (by omega) hR.1 fun H1 cA g1 z1 o1 hAr hNm => ?_
  refine W.cs (cells' := (n + 1) - n0) (slots' := (w + k) - w0) (by omega) (by omega) ?_
  refine kk.2 p l e R s m args below meth c H1 locs lsA n0 w0 Q cx hl' (hR.push (pm_arr' ht9 ⟨hR.2.1, cA, by rw [← ht]; exact hAr, by rw [← ht]; exact hRA s cA hNm, by rw [hg]; exact g1⟩) z1 o1) hlo (by show n0 ≤ n + 1; omega) (by show w0 ≤ w + k; omega) e3 e4 hq
theorem px_newint {k : Nat} {x : Int32} (hA : Cond.arrayClass .int ∈ pm_gw) (hx0 : ¬ x < 0) (hxk : x.toNatClampNeg = k) (hby : k * 4 ≤ 536870912) (hd : decode μ.2.1 pc = .ok (.newarray .int, 2))
    (kk : EX B D d μ (pc + 2) ls (.ref n :: st) (n + 1, w + k, va_up f n (some (.inl (0, k, .inl (fun _ => 0))))) r h1) : EX B D d μ pc ls (.int x :: st) (n, w, f) r h1 :=
  px_newarr (at_ := .int) (t := 0) rfl (by decide) hA (fun _ => rfl) (fun _ _ h => h) hx0 hxk hby hd kk
theorem px_newbool {k : Nat} {x : Int32} (hA : Cond.arrayClass .boolean ∈ pm_gw) (hx0 : ¬ x < 0) (hxk : x.toNatClampNeg = k) (hby : k * 1 ≤ 536870912) (hd : decode μ.2.1 pc = .ok (.newarray .boolean, 2))
    (kk : EX B D d μ (pc + 2) ls (.ref n :: st) (n + 1, w + k, va_up f n (some (.inl (2, k, .inl (fun _ => 0))))) r h1) : EX B D d μ pc ls (.int x :: st) (n, w, f) r h1 :=
  px_newarr (at_ := .boolean) (t := 2) rfl (by decide) hA (fun _ => rfl) (fun _ _ h => h) hx0 hxk hby hd kk
theorem px_newlong {k : Nat} {x : Int32} (hA : Cond.arrayClass .long ∈ pm_gw) (hx0 : ¬ x < 0) (hxk : x.toNatClampNeg = k) (hby : k * 8 ≤ 536870912) (hd : decode μ.2.1 pc = .ok (.newarray .long, 2))
    (kk : EX B D d μ (pc + 2) ls (.ref n :: st) (n + 1, w + k, va_up f n (some (.inl (1, k, .inr (.inl (fun _ => 0)))))) r h1) : EX B D d μ pc ls (.int x :: st) (n, w, f) r h1 :=
  px_newarr (at_ := .long) (t := 1) rfl (by decide) hA (fun _ => rfl) (fun _ _ h => h) hx0 hxk hby hd kk
theorem px_anew {i t k : Nat} {C : String} {x : Int32} (hC : pm_ty t = .object C) (ht9 : t ≠ 9) (hl : Cond.classLink μ.1.cls i C ∈ pm_gw) (hov : Cond.arrayOver (.object C) ∈ lw_tbl) (hx0 : ¬ x < 0) (hxk : x.toNatClampNeg = k) (hby : k * 4 ≤ 536870912) (hd : decode μ.2.1 pc = .ok (.anewarray i, 3))
    (kk : EX B D d μ (pc + 3) ls (.ref n :: st) (n + 1, w + k, va_up f n (some (.inl (t, k, .inr (.inr (.inr (.inr (fun _ => none)))))))) r h1) : EX B D d μ pc ls (.int x :: st) (n, w, f) r h1 := by
  have k1 : n + 1 ≤ h1.1 := kk.1.1
  have k2 : w + k ≤ h1.2.1 := kk.1.2
  refine ⟨⟨by show n ≤ h1.1; omega, by show w ≤ h1.2.1; omega⟩, fun p l e R s m args below meth c H locs lsA n0 w0 Q cx hl' hR hlo e1 e2 e3 e4 hq => ?_⟩
  have hts := cx.2.2.2.2.2.1
  have hover := cx.2.2.2.2.2.2.2.2.1.2.2 C hov
  dsimp only at e1 e2 ⊢
  subst hxk
  refine W.anew cx.1 cx.2.1 cx.2.2.2.2.1 (hts _ hl) (va_AO.use hover) rfl hd rfl hx0 hby (by omega) (by omega) fun cA kA comp f1 f2 f3 f4 => ?_
  have hsz := hR.1
  dsimp only at hsz
  generalize hH1 : H.push ({ cls := cA, slots := Array.replicate x.toNatClampNeg .null, vm := .none } : Cell) = H1
  have z1 : H1.size = n + 1 := by rw [← hH1, Array.size_push, hsz]
  have g1 : H1[n]? = some (arrV cA x.toNatClampNeg (fun _ => .null)) := by rw [← hH1, ← hsz, Array.getElem?_push_size, ← arrV_new]
  have o1 : ∀ q : Nat, q < n → H1[q]? = H[q]? := fun q hq => by rw [← hH1, Array.getElem?_push, if_neg (by omega)]
  have hAr : ArrOfT s cA (.object C) := fun N z => ⟨(fun k h => by cases h), kA, f2, comp, f3⟩
  rw [hsz]
  refine W.cs (cells' := (n + 1) - n0) (slots' := (w + x.toNatClampNeg) - w0) (by omega) (by omega) ?_
  refine kk.2 p l e R s m args below meth c H1 locs lsA n0 w0 Q cx hl' (hR.push (pm_arr' ht9 ⟨hR.2.1, cA, by rw [hC]; exact hAr, by rw [hC]; exact ⟨kA, comp, f2, f3, f4, f1⟩, by rw [vp_cell_q]; exact g1⟩) z1 o1) hlo (by show n0 ≤ n + 1; omega) (by show w0 ≤ w + _; omega) e3 e4 hq
theorem pm_rest4 {st : List Value} (h : st.length ≤ 4) : (st.map fun v => v.category).sum ≤ 8 := by
  have key : ∀ (l : List Value), (l.map fun v => v.category).sum ≤ 2 * l.length := by
    intro l
    induction l with
    | nil => exact Nat.le_refl _
    | cons a t ih =>
      have : a.category ≤ 2 := by cases a <;> simp [Value.category]
      simp only [List.map_cons, List.sum_cons, List.length_cons]
      omega
  have := key st
  omega
theorem px_objinit {i a : Nat} (hl : Cond.methodLink μ.1.cls i objectInit ∈ pm_gw) (hin : Cond.instanceMethod objectInit ∈ pm_gw) (hco : Cond.code objectInit ⟨#[0xb1]⟩ 1 none ∈ pm_gw) (hd0 : 1 ≤ d) (hst : st.length ≤ 4) (hd : decode μ.2.1 pc = .ok (.invokespecial i, 3)) (kk : EX B D d μ (pc + 3) ls st (n, w, f) r h1) : EX B D d μ pc ls (.ref a :: st) (n, w, f) r h1 := by
  refine ⟨kk.1, fun p l e R s m args below meth c H locs lsA n0 w0 Q cx hl' hR hlo e1 e2 e3 e4 hq => ?_⟩
  have hts := cx.2.2.2.2.2.1
  have h8 := pm_rest4 hst
  have hR1 := cx.2.2.2.2.2.2.2.2.2.1
  have hR2 := cx.2.2.2.2.2.2.2.2.2.2
  exact W.objInit cx.1 cx.2.1 cx.2.2.2.2.1 (hts _ hl) (hts _ hin) (hts _ hco) rfl (by rw [cx.2.2.2.1]; exact hl'.1) rfl hd (by omega) (by show 2 * 0 + _ + 12 ≤ _; omega) (W.eq (g2 := F0 m (pc + 3) lsA st) rfl (kk.2 p l e R s m args below meth c H locs lsA n0 w0 Q cx hl' hR hlo e1 e2 e3 e4 hq))
/-- behind a call -/
theorem pm_after {p : Program} {l : Launch} {e : Env} {R : Room} {s : State} {m : MethodId} {args : Array Value} {below : List Frame} {meth : Method} {c : Code} {H : Heap} {locs : List Loc} {lsA : Array Slot} {n0 w0 : Nat} {Q : State → Prop} {h h2 : pm_H} {v : Option Value} {st0 : List Value} (hr : va_Run p l e R s m args below meth c H locs (h.1 - n0) (h.2.1 - w0) (h2.1 - h.1) (h2.2.1 - h.2.1) (F0 m pc lsA st0) st (fun _ o t => o = .returned v ∧ pm_R B D t t.heap h2) (fun q => B ≤ q)) (hm : h.1 ≤ h2.1 ∧ h.2.1 ≤ h2.2.1) (hlo : ∀ q ∈ locs, B ≤ q.base) (e1 : n0 ≤ h.1) (e2 : w0 ≤ h.2.1)
    (kk : EX B D d μ (pc + 3) ls (v.toList ++ st) h2 r h1) (cx : pm_cx D d μ p R s m args meth c) (hl : pm_L lsA μ.2.2.1 ls) (e3 : h1.1 - n0 ≤ R.cells) (e4 : h1.2.1 - w0 ≤ R.slots) (hq : pm_end B D μ r h1 p l e R s m args below meth c n0 w0 Q) : W p l e R s m args below meth c H locs (h.1 - n0) (h.2.1 - w0) Q (F0 m pc lsA st0) := by
  intro T hT X
  obtain ⟨v', st₀, t, T', L, g0, X', hL, f1, f2, ⟨hv, hR1⟩, stp⟩ := hr T hT X
  cases hv
  rw [show h.1 - n0 + (h2.1 - h.1) = h2.1 - n0 by omega, show h.2.1 - w0 + (h2.2.1 - h.2.1) = h2.2.1 - w0 by omega] at X'
  obtain ⟨t2, a1, b1⟩ := kk.2 p l e R s m args below meth c T'.heap (locs ++ L) lsA n0 w0 Q cx hl (by
      rw [f1]
      exact hR1.moved (by rw [← f2]; exact X'.warmed.alike.symm)) (fun q hq => by
      rcases List.mem_append.mp hq with h | h
      · exact hlo q h
      · exact hL q h) (by omega) (by omega) e3 e4 hq T' rfl X'
  exact ⟨t2, stp t2 a1, b1⟩
theorem pm_pay {s : State} {args : Array Value} {ν : pm_M} {k : Nat} (hts : ∀ w ∈ pm_gw, w.before args s = true) (hν : pm_mok ν k) : ∀ w ∈ pm_ws ν, ∀ (a' : Array Value) (U : State), s.WarmedH U.vm → w.before a' U = true := by
  intro w hw a' U hW
  have h1 : w ∈ pm_gw := by
    rcases List.mem_cons.mp hw with h | h
    · rw [h]; exact hν.1
    · exact h
  exact word_at hW (pm_gw_good w h1) (hts w h1)
theorem pm_blind {as : List Value} {h : pm_H} : FrameBlind (fun a U => a = as.toArray ∧ pm_K D U ∧ pm_R B D U U.heap h) := by
  intro a U g mk q
  exact ⟨q.1, q.2.1.same rfl, q.2.2.moved (u := U) (U := U.calling g mk a) (Vm.Alike.refl U.vm)⟩
theorem px_callV {ν : pm_M} {i ci b k d1 : Nat} {q : vw_C} {As sk : List Value} {v : Option Value} {fs : List Value} {h2 : pm_H} (hq0 : pm_cl[ci]? = some q) (hqc : q.1 = ν.1.cls) (hl : Cond.methodLink μ.1.cls i ν.1 ∈ pm_gw) (hin : Cond.instanceMethod ν.1 ∈ pm_gw) (hse : Cond.selects ν.1.cls ν.1 ν.1 ∈ pm_gw) (hν : pm_mok ν k) (hd : decode μ.2.1 pc = .ok (.invokevirtual i, 3)) (hC : CT B D d1 ν (.ref b :: As) (n, w, f) v h2) (hb : f b = some (.inr (ci, fs))) (hk : As.length = k) (hsk : sk = As.reverse ++ .ref b :: st) (hdd : d1 + 1 ≤ d) (hst : st.length ≤ 4)
    (kk : EX B D d μ (pc + 3) ls (v.toList ++ st) h2 r h1) : EX B D d μ pc ls sk (n, w, f) r h1 := by
  refine ⟨⟨Nat.le_trans hC.1.1 kk.1.1, Nat.le_trans hC.1.2 kk.1.2⟩, fun p l e R s m args below meth c H locs lsA n0 w0 Q cx hl' hR hlo e1 e2 e3 e4 hq => ?_⟩
  have hts := cx.2.2.2.2.2.1
  have hm := hC.1
  have hm2 := kk.1
  have hR1 := cx.2.2.2.2.2.2.2.2.2.1
  have hR2 := cx.2.2.2.2.2.2.2.2.2.2
  have hν5 := hν.2.2.2.2
  refine pm_after (h := (n, w, f)) (h2 := h2) (st0 := sk) ?_ hm hlo e1 e2 kk cx hl' e3 e4 hq
  subst hsk
  refine va_runV (cc := μ.2.1) (nL := μ.2.2.1) (Ts := pm_gw) (own := μ.1.cls) (C := ν.1.cls) (y := ν.1) (bytes := ν.2.1) (maxL := ν.2.2.1) (ret := ν.2.2.2) (n := k) (b := b) (As := As) ⟨cx.1, cx.2.1, cx.2.2.2.1, cx.2.2.2.2.1, hts⟩ (hC.2 l) ⟨⟨rfl, rfl, ?_, ?_, pm_pay hts hν, List.mem_cons_self, hts _ hν.1, hts _ hν.2.1, hν.2.2.1, ?_, hts _ hl⟩, hts _ hin, hts _ hse⟩ ⟨pm_blind, ?_, ?_⟩ rfl hk hl'.1 rfl ?_ hd ⟨?_, ?_⟩
  · show d1 + 1 ≤ R.frames; omega
  · show 8 + (ν.2.2.1 + 11) + 40 * d1 ≤ R.locals; omega
  · intro sig hs
    have := hν.2.2.2.1
    rw [hs] at this
    exact (Option.some.inj this).symm
  · obtain ⟨q', h1', cell, g1, g2, g3, -⟩ := (hR.2.2 b _ hb).2
    have hr : q' = q := Option.some.inj (h1'.symm.trans hq0)
    subst hr
    exact ⟨cell, g1, by rw [g3]; rfl, by rw [g2, ← hqc]; exact (cx.2.2.2.2.2.2.2.2.1.1.1 ci _ hq0).2.1⟩
  · intro U hU hW
    exact ⟨rfl, cx.2.2.2.2.2.2.2.2.1.warm hW, by rw [hU]; exact hR.moved hW.alike⟩
  · exact lv_room (pm_rest4 hst)
  · show n - n0 + (h2.1 - n) ≤ R.cells
    have := hm2.1; dsimp only at hm e1; omega
  · show w - w0 + (h2.2.1 - w) ≤ R.slots
    have := hm2.2; dsimp only at hm e2; omega
theorem px_callS {ν : pm_M} {i k d1 : Nat} {As sk : List Value} {v : Option Value} {h2 : pm_H} (hl : Cond.methodLink μ.1.cls i ν.1 ∈ pm_gw) (hstt : Cond.static ν.1 ∈ pm_gw) (hν : pm_mok ν k) (hd : decode μ.2.1 pc = .ok (.invokestatic i, 3)) (hC : CT B D d1 ν As (n, w, f) v h2) (hk : As.length = k) (hsk : sk = As.reverse ++ st) (hdd : d1 + 1 ≤ d) (hst : st.length ≤ 4)
    (kk : EX B D d μ (pc + 3) ls (v.toList ++ st) h2 r h1) : EX B D d μ pc ls sk (n, w, f) r h1 := by
  refine ⟨⟨Nat.le_trans hC.1.1 kk.1.1, Nat.le_trans hC.1.2 kk.1.2⟩, fun p l e R s m args below meth c H locs lsA n0 w0 Q cx hl' hR hlo e1 e2 e3 e4 hq => ?_⟩
  have hts := cx.2.2.2.2.2.1
  have hm := hC.1
  have hm2 := kk.1
  have hR1 := cx.2.2.2.2.2.2.2.2.2.1
  have hR2 := cx.2.2.2.2.2.2.2.2.2.2
  have hν5 := hν.2.2.2.2
  refine pm_after (h := (n, w, f)) (h2 := h2) (st0 := sk) ?_ hm hlo e1 e2 kk cx hl' e3 e4 hq
  subst hsk
  refine va_runS (cc := μ.2.1) (nL := μ.2.2.1) (Ts := pm_gw) (own := μ.1.cls) (y := ν.1) (bytes := ν.2.1) (maxL := ν.2.2.1) (ret := ν.2.2.2) (n := k) (As := As) ⟨cx.1, cx.2.1, cx.2.2.2.1, cx.2.2.2.2.1, hts⟩ (hC.2 l) ⟨⟨rfl, rfl, ?_, ?_, pm_pay hts hν, List.mem_cons_self, hts _ hν.1, hts _ hν.2.1, hν.2.2.1, ?_, hts _ hl⟩, hts _ hstt⟩ ⟨pm_blind, ?_⟩ rfl hk hl'.1 rfl ?_ hd ⟨?_, ?_⟩
  · show d1 + 1 ≤ R.frames; omega
  · show 8 + (ν.2.2.1 + 11) + 40 * d1 ≤ R.locals; omega
  · intro sig hs
    have := hν.2.2.2.1
    rw [hs] at this
    exact (Option.some.inj this).symm
  · intro U hU hW
    exact ⟨rfl, cx.2.2.2.2.2.2.2.2.1.warm hW, by rw [hU]; exact hR.moved hW.alike⟩
  · exact lv_room (pm_rest4 hst)
  · show n - n0 + (h2.1 - n) ≤ R.cells
    have := hm2.1; dsimp only at hm e1; omega
  · show w - w0 + (h2.2.1 - w) ≤ R.slots
    have := hm2.2; dsimp only at hm e2; omega
theorem px_callSN {ν : pm_M} {i k d1 : Nat} {As sk : List Value} {v : Option Value} {h2 : pm_H} (hl : pm_lkN μ.1.cls i ν.1) (hstt : Cond.static ν.1 ∈ pm_gw) (hν : pm_mok ν k) (hd : decode μ.2.1 pc = .ok (.invokestatic i, 3)) (hC : CT B D d1 ν As (n, w, f) v h2) (hk : As.length = k) (hsk : sk = As.reverse ++ st) (hdd : d1 + 1 ≤ d) (hst : st.length ≤ 4)
    (kk : EX B D d μ (pc + 3) ls (v.toList ++ st) h2 r h1) : EX B D d μ pc ls sk (n, w, f) r h1 := by
  refine ⟨⟨Nat.le_trans hC.1.1 kk.1.1, Nat.le_trans hC.1.2 kk.1.2⟩, fun p l e R s m args below meth c H locs lsA n0 w0 Q cx hl' hR hlo e1 e2 e3 e4 hq => ?_⟩
  have hts := cx.2.2.2.2.2.1
  have hm := hC.1
  have hm2 := kk.1
  have hR1 := cx.2.2.2.2.2.2.2.2.2.1
  have hR2 := cx.2.2.2.2.2.2.2.2.2.2
  have hν5 := hν.2.2.2.2
  obtain ⟨host, hln⟩ := hl
  refine pm_after (h := (n, w, f)) (h2 := h2) (st0 := sk) ?_ hm hlo e1 e2 kk cx hl' e3 e4 hq
  subst hsk
  refine va_runSN (cc := μ.2.1) (nL := μ.2.2.1) (Ts := pm_gw) (own := μ.1.cls) (host := host) (y := ν.1) (bytes := ν.2.1) (maxL := ν.2.2.1) (ret := ν.2.2.2) (n := k) (As := As) ⟨cx.1, cx.2.1, cx.2.2.2.1, cx.2.2.2.2.1, hts⟩ (hC.2 l) ⟨⟨⟨rfl, rfl, ?_, ?_, pm_pay hts hν, List.mem_cons_self⟩, hts _ hν.1, hts _ hν.2.1, hν.2.2.1, ?_, va_Nw.use rfl (cx.2.2.2.2.2.2.2.2.1.2.1 _ _ _ _ hln)⟩, hts _ hstt, trivial⟩ ⟨pm_blind, ?_⟩ rfl hk hl'.1 rfl ?_ hd ⟨?_, ?_⟩
  · show d1 + 1 ≤ R.frames; omega
  · show 8 + (ν.2.2.1 + 11) + 40 * d1 ≤ R.locals; omega
  · intro sig hs
    have := hν.2.2.2.1
    rw [hs] at this
    exact (Option.some.inj this).symm
  · intro U hU hW
    exact ⟨rfl, cx.2.2.2.2.2.2.2.2.1.warm hW, by rw [hU]; exact hR.moved hW.alike⟩
  · exact lv_room (pm_rest4 hst)
  · show n - n0 + (h2.1 - n) ≤ R.cells
    have := hm2.1; dsimp only at hm e1; omega
  · show w - w0 + (h2.2.1 - w) ≤ R.slots
    have := hm2.2; dsimp only at hm e2; omega
theorem px_callI {ν : pm_M} {i b k d1 : Nat} {As sk : List Value} {h2 : pm_H} (hret : ν.2.2.2 = none) (hini : ν.1.name = "<init>") (hl : Cond.methodLink μ.1.cls i ν.1 ∈ pm_gw) (hin : Cond.instanceMethod ν.1 ∈ pm_gw) (hν : pm_mok ν k) (hd : decode μ.2.1 pc = .ok (.invokespecial i, 3)) (hC : CT B D d1 ν (.ref b :: As) (n, w, f) none h2) (hk : As.length = k) (hsk : sk = As.reverse ++ .ref b :: st) (hdd : d1 + 1 ≤ d) (hst : st.length ≤ 4)
    (kk : EX B D d μ (pc + 3) ls st h2 r h1) : EX B D d μ pc ls sk (n, w, f) r h1 := by
  refine ⟨⟨Nat.le_trans hC.1.1 kk.1.1, Nat.le_trans hC.1.2 kk.1.2⟩, fun p l e R s m args below meth c H locs lsA n0 w0 Q cx hl' hR hlo e1 e2 e3 e4 hq => ?_⟩
  have hts := cx.2.2.2.2.2.1
  have hm := hC.1
  have hm2 := kk.1
  have hR1 := cx.2.2.2.2.2.2.2.2.2.1
  have hR2 := cx.2.2.2.2.2.2.2.2.2.2
  have hν5 := hν.2.2.2.2
  refine pm_after (h := (n, w, f)) (h2 := h2) (st0 := sk) (v := none) ?_ hm hlo e1 e2 kk cx hl' e3 e4 hq
  subst hsk
  refine va_runI (cc := μ.2.1) (nL := μ.2.2.1) (Ts := pm_gw) (own := μ.1.cls) (y := ν.1) (bytes := ν.2.1) (maxL := ν.2.2.1) (n := k) (b := b) (As := As) ⟨cx.1, cx.2.1, cx.2.2.2.1, cx.2.2.2.2.1, hts⟩ (hC.2 l) ⟨⟨rfl, rfl, ?_, ?_, pm_pay hts hν, by rw [← hret]; exact List.mem_cons_self, by rw [← hret]; exact hts _ hν.1, hts _ hν.2.1, hν.2.2.1, ?_, hts _ hl⟩, hini, hts _ hin⟩ ⟨pm_blind, ?_⟩ rfl hk hl'.1 rfl ?_ hd ⟨?_, ?_⟩
  · show d1 + 1 ≤ R.frames; omega
  · show 8 + (ν.2.2.1 + 11) + 40 * d1 ≤ R.locals; omega
  · intro sig hs
    have := hν.2.2.2.1
    rw [hs] at this
    exact (Option.some.inj this).symm
  · intro U hU hW
    exact ⟨rfl, cx.2.2.2.2.2.2.2.2.1.warm hW, by rw [hU]; exact hR.moved hW.alike⟩
  · exact lv_room (pm_rest4 hst)
  · show n - n0 + (h2.1 - n) ≤ R.cells
    have := hm2.1; dsimp only at hm e1; omega
  · show w - w0 + (h2.2.1 - w) ≤ R.slots
    have := hm2.2; dsimp only at hm e2; omega
theorem px_callIN {ν : pm_M} {i b k d1 : Nat} {As sk : List Value} {h2 : pm_H} (hret : ν.2.2.2 = none) (hini : ν.1.name = "<init>") (hl : pm_lkN μ.1.cls i ν.1) (hin : Cond.instanceMethod ν.1 ∈ pm_gw) (hν : pm_mok ν k) (hd : decode μ.2.1 pc = .ok (.invokespecial i, 3)) (hC : CT B D d1 ν (.ref b :: As) (n, w, f) none h2) (hk : As.length = k) (hsk : sk = As.reverse ++ .ref b :: st) (hdd : d1 + 1 ≤ d) (hst : st.length ≤ 4)
    (kk : EX B D d μ (pc + 3) ls st h2 r h1) : EX B D d μ pc ls sk (n, w, f) r h1 := by
  refine ⟨⟨Nat.le_trans hC.1.1 kk.1.1, Nat.le_trans hC.1.2 kk.1.2⟩, fun p l e R s m args below meth c H locs lsA n0 w0 Q cx hl' hR hlo e1 e2 e3 e4 hq => ?_⟩
  have hts := cx.2.2.2.2.2.1
  have hm := hC.1
  have hm2 := kk.1
  have hR1 := cx.2.2.2.2.2.2.2.2.2.1
  have hR2 := cx.2.2.2.2.2.2.2.2.2.2
  have hν5 := hν.2.2.2.2
  obtain ⟨host, hln⟩ := hl
  refine pm_after (h := (n, w, f)) (h2 := h2) (st0 := sk) (v := none) ?_ hm hlo e1 e2 kk cx hl' e3 e4 hq
  subst hsk
  refine va_runIN (cc := μ.2.1) (nL := μ.2.2.1) (Ts := pm_gw) (own := μ.1.cls) (host := host) (y := ν.1) (bytes := ν.2.1) (maxL := ν.2.2.1) (n := k) (b := b) (As := As) ⟨cx.1, cx.2.1, cx.2.2.2.1, cx.2.2.2.2.1, hts⟩ (hC.2 l) ⟨⟨⟨rfl, rfl, ?_, ?_, pm_pay hts hν, by rw [← hret]; exact List.mem_cons_self⟩, by rw [← hret]; exact hts _ hν.1, hts _ hν.2.1, hν.2.2.1, ?_, va_Nw.use rfl (cx.2.2.2.2.2.2.2.2.1.2.1 _ _ _ _ hln)⟩, hini, hts _ hin⟩ ⟨pm_blind, ?_⟩ rfl hk hl'.1 rfl ?_ hd ⟨?_, ?_⟩
  · show d1 + 1 ≤ R.frames; omega
  · show 8 + (ν.2.2.1 + 11) + 40 * d1 ≤ R.locals; omega
  · intro sig hs
    have := hν.2.2.2.1
    rw [hs] at this
    exact (Option.some.inj this).symm
  · intro U hU hW
    exact ⟨rfl, cx.2.2.2.2.2.2.2.2.1.warm hW, by rw [hU]; exact hR.moved hW.alike⟩
  · exact lv_room (pm_rest4 hst)
  · show n - n0 + (h2.1 - n) ≤ R.cells
    have := hm2.1; dsimp only at hm e1; omega
  · show w - w0 + (h2.2.1 - w) ≤ R.slots
    have := hm2.2; dsimp only at hm e2; omega
/-! returns -/
theorem px_ret {rv : Option Value} (hr : rv.toList = st) (hd : decode μ.2.1 pc = .ok (pm_ret μ.2.2.2, 1)) : EX B D d μ pc ls st (n, w, f) rv (n, w, f) := by
  subst hr
  refine ⟨⟨Nat.le_refl _, Nat.le_refl _⟩, fun p l e R s m args below meth c H locs lsA n0 w0 Q cx hl' hR hlo e1 e2 e3 e4 hq => ?_⟩
  exact hq H locs lsA pc hd hR hlo
/-- the locals may be forgotten -/
theorem px_less {h : pm_H} {ls2 : pm_Ls} (hlen : ls2.length = ls.length) (hle : ∀ (i : Nat) (v : Value), ls2[i]? = some (some v) → ls[i]? = some (some v)) (kk : EX B D d μ pc ls2 st h r h1) : EX B D d μ pc ls st h r h1 := by
  refine ⟨kk.1, fun p l e R s m args below meth c H locs lsA n0 w0 Q cx hl hR hlo e1 e2 e3 e4 hq => ?_⟩
  exact kk.2 p l e R s m args below meth c H locs lsA n0 w0 Q cx ⟨hl.1, hl.2.1, hlen.trans hl.2.2.1, fun i v h => hl.2.2.2 i v (hle i v h)⟩ hR hlo e1 e2 e3 e4 hq
/-- a heap told otherwise -/
theorem px_heap {h h' : pm_H} (he : h = h') (kk : EX B D d μ pc ls st h' r h1) : EX B D d μ pc ls st h r h1 := he ▸ kk
end PZ
end
