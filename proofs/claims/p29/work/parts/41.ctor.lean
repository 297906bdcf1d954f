set_option maxRecDepth 100000 in
theorem ctT_0 : dkT lw_tbl [(80, (Jvm.Cond.initialized "ManyNames")), (0, (Jvm.Cond.initialized "ManyNames$Folk")), (0, (Jvm.Cond.initialized "ManyNames$Ties")), (0, (Jvm.Cond.initialized "ManyNames$Words")), (0, (Jvm.Cond.initialized "ManyNames$Tape")), (0, (Jvm.Cond.initialized "ManyNames$Flow")), (1, (Jvm.Cond.initialized "ManyNames$Sheet")), (0, (Jvm.Cond.initialized "ManyNamesModel")), (8, (Jvm.Cond.instantiable "ManyNames" (13 : Nat))), (1, (Jvm.Cond.instanceMethod ({ cls := "ManyNames", name := "<init>", desc := "()V" } : Jvm.MethodName))), (1, (Jvm.Cond.methodLink "ManyNames" (3 : Nat) ({ cls := "java/lang/Object", name := "<init>", desc := "()V" } : Jvm.MethodName))), (0, (Jvm.Cond.instanceMethod ({ cls := "java/lang/Object", name := "<init>", desc := "()V" } : Jvm.MethodName))), (1, (Jvm.Cond.classLink "ManyNames" (9 : Nat) "ManyNames$Folk")), (0, (Jvm.Cond.instantiable "ManyNames$Folk" (6 : Nat))), (0, (Jvm.Cond.methodLinkNest "ManyNames" (11 : Nat) ({ cls := "ManyNames$Folk", name := "<init>", desc := "()V" } : Jvm.MethodName) "ManyNames")), (0, (Jvm.Cond.instanceMethod ({ cls := "ManyNames$Folk", name := "<init>", desc := "()V" } : Jvm.MethodName))), (1, (Jvm.Cond.methodLink "ManyNames$Folk" (3 : Nat) ({ cls := "java/lang/Object", name := "<init>", desc := "()V" } : Jvm.MethodName))), (25, (Jvm.Cond.arrayClass Jvm.ClassFile.FieldType.int)), (0, (Jvm.Cond.arrayClass Jvm.ClassFile.FieldType.boolean)), (0, (Jvm.Cond.classLink "ManyNames" (16 : Nat) "ManyNames$Ties")), (0, (Jvm.Cond.instantiable "ManyNames$Ties" (6 : Nat))), (0, (Jvm.Cond.methodLinkNest "ManyNames" (18 : Nat) ({ cls := "ManyNames$Ties", name := "<init>", desc := "()V" } : Jvm.MethodName) "ManyNames")), (0, (Jvm.Cond.instanceMethod ({ cls := "ManyNames$Ties", name := "<init>", desc := "()V" } : Jvm.MethodName))), (1, (Jvm.Cond.methodLink "ManyNames$Ties" (3 : Nat) ({ cls := "java/lang/Object", name := "<init>", desc := "()V" } : Jvm.MethodName))), (25, (Jvm.Cond.classLink "ManyNames" (23 : Nat) "ManyNames$Words")), (0, (Jvm.Cond.instantiable "ManyNames$Words" (8 : Nat))), (0, (Jvm.Cond.methodLinkNest "ManyNames" (25 : Nat) ({ cls := "ManyNames$Words", name := "<init>", desc := "()V" } : Jvm.MethodName) "ManyNames")), (0, (Jvm.Cond.instanceMethod ({ cls := "ManyNames$Words", name := "<init>", desc := "()V" } : Jvm.MethodName))), (1, (Jvm.Cond.methodLink "ManyNames$Words" (3 : Nat) ({ cls := "java/lang/Object", name := "<init>", desc := "()V" } : Jvm.MethodName))), (32, (Jvm.Cond.classLink "ManyNames" (30 : Nat) "ManyNames$Tape")), (0, (Jvm.Cond.instantiable "ManyNames$Tape" (8 : Nat))), (0, (Jvm.Cond.methodLinkNest "ManyNames" (32 : Nat) ({ cls := "ManyNames$Tape", name := "<init>", desc := "()V" } : Jvm.MethodName) "ManyNames"))] = true := by decide +kernel
set_option maxRecDepth 100000 in
theorem ctT_1 : dkT lw_tbl [(209, (Jvm.Cond.instanceMethod ({ cls := "ManyNames$Tape", name := "<init>", desc := "()V" } : Jvm.MethodName))), (1, (Jvm.Cond.methodLink "ManyNames$Tape" (3 : Nat) ({ cls := "java/lang/Object", name := "<init>", desc := "()V" } : Jvm.MethodName))), (27, (Jvm.Cond.classLink "ManyNames" (37 : Nat) "ManyNames$Flow")), (0, (Jvm.Cond.instantiable "ManyNames$Flow" (7 : Nat))), (0, (Jvm.Cond.methodLinkNest "ManyNames" (39 : Nat) ({ cls := "ManyNames$Flow", name := "<init>", desc := "()V" } : Jvm.MethodName) "ManyNames")), (0, (Jvm.Cond.instanceMethod ({ cls := "ManyNames$Flow", name := "<init>", desc := "()V" } : Jvm.MethodName))), (1, (Jvm.Cond.methodLink "ManyNames$Flow" (3 : Nat) ({ cls := "java/lang/Object", name := "<init>", desc := "()V" } : Jvm.MethodName))), (23, (Jvm.Cond.classLink "ManyNames" (44 : Nat) "ManyNames$Sheet")), (0, (Jvm.Cond.arrayOver (Jvm.ClassFile.FieldType.object "ManyNames$Sheet"))), (0, (Jvm.Cond.fieldLink "ManyNames" (66 : Nat) "ManyNames" "RULES_AT_FIRST" "[I")), (4, (Jvm.Cond.instantiable "ManyNames$Sheet" (3 : Nat))), (0, (Jvm.Cond.methodLinkNest "ManyNames" (75 : Nat) ({ cls := "ManyNames$Sheet", name := "<init>", desc := "()V" } : Jvm.MethodName) "ManyNames")), (0, (Jvm.Cond.instanceMethod ({ cls := "ManyNames$Sheet", name := "<init>", desc := "()V" } : Jvm.MethodName))), (1, (Jvm.Cond.methodLink "ManyNames$Sheet" (3 : Nat) ({ cls := "java/lang/Object", name := "<init>", desc := "()V" } : Jvm.MethodName))), (562, (Jvm.Cond.instantiable "ManyNamesModel" (44 : Nat))), (1, (Jvm.Cond.instanceMethod ({ cls := "ManyNamesModel", name := "<init>", desc := "()V" } : Jvm.MethodName))), (1, (Jvm.Cond.methodLink "ManyNamesModel" (1 : Nat) ({ cls := "java/lang/Object", name := "<init>", desc := "()V" } : Jvm.MethodName)))] = true := by decide +kernel
theorem acI : Cond.arrayClass .int ∈ aw_tb := aw_me (dkT_at _ _ ctT_0 17 _ rfl) rfl
theorem acZ : Cond.arrayClass .boolean ∈ aw_tb := aw_me (dkT_at _ _ ctT_0 18 _ rfl) rfl
theorem aoS : Cond.arrayOver (.object "ManyNames$Sheet") ∈ lw_tbl := dkT_at _ _ ctT_1 8 _ rfl
theorem oiL0 : Cond.methodLink RX0 3 Lib.objectInit ∈ aw_tb := aw_me (dkT_at _ _ ctT_1 6 _ rfl) rfl
theorem oiL1 : Cond.methodLink RX1 3 Lib.objectInit ∈ aw_tb := aw_me (dkT_at _ _ ctT_0 16 _ rfl) rfl
theorem oiL2 : Cond.methodLink RX2 3 Lib.objectInit ∈ aw_tb := aw_me (dkT_at _ _ ctT_1 13 _ rfl) rfl
theorem oiL3 : Cond.methodLink RX3 3 Lib.objectInit ∈ aw_tb := aw_me (dkT_at _ _ ctT_1 1 _ rfl) rfl
theorem oiL4 : Cond.methodLink RX4 3 Lib.objectInit ∈ aw_tb := aw_me (dkT_at _ _ ctT_0 23 _ rfl) rfl
theorem oiL5 : Cond.methodLink RX5 3 Lib.objectInit ∈ aw_tb := aw_me (dkT_at _ _ ctT_0 28 _ rfl) rfl
theorem oiL6 : Cond.methodLink RX6 3 Lib.objectInit ∈ aw_tb := aw_me (dkT_at _ _ ctT_0 10 _ rfl) rfl
theorem oiL7 : Cond.methodLink RX7 1 Lib.objectInit ∈ aw_tb := aw_me (dkT_at _ _ ctT_1 16 _ rfl) rfl
theorem ln_11 : MLN RX6 11 mX1_init := dkT_at _ _ ctT_0 14 _ rfl
theorem ln_18 : MLN RX6 18 mX4_init := dkT_at _ _ ctT_0 21 _ rfl
theorem ln_25 : MLN RX6 25 mX5_init := dkT_at _ _ ctT_0 26 _ rfl
theorem ln_32 : MLN RX6 32 mX3_init := dkT_at _ _ ctT_0 31 _ rfl
theorem ln_39 : MLN RX6 39 mX0_init := dkT_at _ _ ctT_1 4 _ rfl
theorem ln_75 : MLN RX6 75 mX2_init := dkT_at _ _ ctT_1 11 _ rfl
theorem cl_9 : Cond.classLink RX6 9 "ManyNames$Folk" ∈ aw_tb := aw_me (dkT_at _ _ ctT_0 12 _ rfl) rfl
theorem cl_16 : Cond.classLink RX6 16 "ManyNames$Ties" ∈ aw_tb := aw_me (dkT_at _ _ ctT_0 19 _ rfl) rfl
theorem cl_23 : Cond.classLink RX6 23 "ManyNames$Words" ∈ aw_tb := aw_me (dkT_at _ _ ctT_0 24 _ rfl) rfl
theorem cl_30 : Cond.classLink RX6 30 "ManyNames$Tape" ∈ aw_tb := aw_me (dkT_at _ _ ctT_0 29 _ rfl) rfl
theorem cl_37 : Cond.classLink RX6 37 "ManyNames$Flow" ∈ aw_tb := aw_me (dkT_at _ _ ctT_1 2 _ rfl) rfl
theorem cl_44 : Cond.classLink RX6 44 "ManyNames$Sheet" ∈ aw_tb := aw_me (dkT_at _ _ ctT_1 7 _ rfl) rfl
theorem oiI : Cond.instanceMethod Lib.objectInit ∈ aw_tb := aw_me (dkT_at _ _ ctT_0 11 _ rfl) rfl
theorem oiC : Cond.code Lib.objectInit ⟨#[0xb1]⟩ 1 none ∈ aw_tb := aw_me (tin_1 (List.mem_of_getElem? (i := 24) rfl)) rfl
theorem ffX0_0 : FF RX0 0 0 (.array .int) := ⟨RX0, TX0, 7, tyX0, rfl, tyX0_ok, nmX0, rfl, by decide +kernel, rfl⟩
theorem ffX0_1 : FF RX0 0 1 (.array .int) := ⟨RX0, TX0, 7, tyX0, rfl, tyX0_ok, nmX0, rfl, by decide +kernel, rfl⟩
theorem ffX0_2 : FF RX0 0 2 (.array .int) := ⟨RX0, TX0, 7, tyX0, rfl, tyX0_ok, nmX0, rfl, by decide +kernel, rfl⟩
theorem ffX0_3 : FF RX0 0 3 (.array .int) := ⟨RX0, TX0, 7, tyX0, rfl, tyX0_ok, nmX0, rfl, by decide +kernel, rfl⟩
theorem ffX0_4 : FF RX0 0 4 (.array .int) := ⟨RX0, TX0, 7, tyX0, rfl, tyX0_ok, nmX0, rfl, by decide +kernel, rfl⟩
theorem ffX0_5 : FF RX0 0 5 (.array .int) := ⟨RX0, TX0, 7, tyX0, rfl, tyX0_ok, nmX0, rfl, by decide +kernel, rfl⟩
theorem fiX0 : MFi mX0_init := ⟨aw_me (tin_1 (List.mem_of_getElem? (i := 164) rfl)) rfl, aw_me (dkT_at _ _ ctT_0 5 _ rfl) rfl, ⟨by decide +kernel, by decide +kernel, by decide +kernel⟩, by decide, rfl, aw_me (dkT_at _ _ ctT_1 5 _ rfl) rfl, rfl⟩
theorem inX0_ : Cond.instantiable RX0 7 ∈ aw_tb := aw_me (dkT_at _ _ ctT_1 3 _ rfl) rfl
theorem ffX1_0 : FF RX1 1 0 (.array .int) := ⟨RX1, TX1, 6, tyX1, rfl, tyX1_ok, nmX1, rfl, by decide +kernel, rfl⟩
theorem ffX1_1 : FF RX1 1 1 (.array .boolean) := ⟨RX1, TX1, 6, tyX1, rfl, tyX1_ok, nmX1, rfl, by decide +kernel, rfl⟩
theorem ffX1_2 : FF RX1 1 2 (.array .boolean) := ⟨RX1, TX1, 6, tyX1, rfl, tyX1_ok, nmX1, rfl, by decide +kernel, rfl⟩
theorem ffX1_3 : FF RX1 1 3 (.array .int) := ⟨RX1, TX1, 6, tyX1, rfl, tyX1_ok, nmX1, rfl, by decide +kernel, rfl⟩
theorem ffX1_4 : FF RX1 1 4 (.array .int) := ⟨RX1, TX1, 6, tyX1, rfl, tyX1_ok, nmX1, rfl, by decide +kernel, rfl⟩
theorem fiX1 : MFi mX1_init := ⟨aw_me (tin_1 (List.mem_of_getElem? (i := 29) rfl)) rfl, aw_me (dkT_at _ _ ctT_0 1 _ rfl) rfl, ⟨by decide +kernel, by decide +kernel, by decide +kernel⟩, by decide, rfl, aw_me (dkT_at _ _ ctT_0 15 _ rfl) rfl, rfl⟩
theorem inX1_ : Cond.instantiable RX1 6 ∈ aw_tb := aw_me (dkT_at _ _ ctT_0 13 _ rfl) rfl
theorem ffX2_0 : FF RX2 2 0 (.array .int) := ⟨RX2, TX2, 3, tyX2, rfl, tyX2_ok, nmX2, rfl, by decide +kernel, rfl⟩
theorem fiX2 : MFi mX2_init := ⟨aw_me (tin_1 (List.mem_of_getElem? (i := 199) rfl)) rfl, aw_me (dkT_at _ _ ctT_0 6 _ rfl) rfl, ⟨by decide +kernel, by decide +kernel, by decide +kernel⟩, by decide, rfl, aw_me (dkT_at _ _ ctT_1 12 _ rfl) rfl, rfl⟩
theorem inX2_ : Cond.instantiable RX2 3 ∈ aw_tb := aw_me (dkT_at _ _ ctT_1 10 _ rfl) rfl
theorem ffX3_0 : FF RX3 3 0 (.array .int) := ⟨RX3, TX3, 8, tyX3, rfl, tyX3_ok, nmX3, rfl, by decide +kernel, rfl⟩
theorem fiX3 : MFi mX3_init := ⟨aw_me (tin_1 (List.mem_of_getElem? (i := 131) rfl)) rfl, aw_me (dkT_at _ _ ctT_0 4 _ rfl) rfl, ⟨by decide +kernel, by decide +kernel, by decide +kernel⟩, by decide, rfl, aw_me (dkT_at _ _ ctT_1 0 _ rfl) rfl, rfl⟩
theorem inX3_ : Cond.instantiable RX3 8 ∈ aw_tb := aw_me (dkT_at _ _ ctT_0 30 _ rfl) rfl
theorem ffX4_0 : FF RX4 4 0 (.array .int) := ⟨RX4, TX4, 6, tyX4, rfl, tyX4_ok, nmX4, rfl, by decide +kernel, rfl⟩
theorem ffX4_1 : FF RX4 4 1 (.array .int) := ⟨RX4, TX4, 6, tyX4, rfl, tyX4_ok, nmX4, rfl, by decide +kernel, rfl⟩
theorem ffX4_2 : FF RX4 4 2 (.array .int) := ⟨RX4, TX4, 6, tyX4, rfl, tyX4_ok, nmX4, rfl, by decide +kernel, rfl⟩
theorem ffX4_3 : FF RX4 4 3 (.array .int) := ⟨RX4, TX4, 6, tyX4, rfl, tyX4_ok, nmX4, rfl, by decide +kernel, rfl⟩
theorem ffX4_4 : FF RX4 4 4 (.array .int) := ⟨RX4, TX4, 6, tyX4, rfl, tyX4_ok, nmX4, rfl, by decide +kernel, rfl⟩
theorem fiX4 : MFi mX4_init := ⟨aw_me (tin_1 (List.mem_of_getElem? (i := 62) rfl)) rfl, aw_me (dkT_at _ _ ctT_0 2 _ rfl) rfl, ⟨by decide +kernel, by decide +kernel, by decide +kernel⟩, by decide, rfl, aw_me (dkT_at _ _ ctT_0 22 _ rfl) rfl, rfl⟩
theorem inX4_ : Cond.instantiable RX4 6 ∈ aw_tb := aw_me (dkT_at _ _ ctT_0 20 _ rfl) rfl
theorem ffX5_0 : FF RX5 5 0 (.array .int) := ⟨RX5, TX5, 8, tyX5, rfl, tyX5_ok, nmX5, rfl, by decide +kernel, rfl⟩
theorem ffX5_1 : FF RX5 5 1 (.array .int) := ⟨RX5, TX5, 8, tyX5, rfl, tyX5_ok, nmX5, rfl, by decide +kernel, rfl⟩
theorem ffX5_2 : FF RX5 5 2 (.array .int) := ⟨RX5, TX5, 8, tyX5, rfl, tyX5_ok, nmX5, rfl, by decide +kernel, rfl⟩
theorem ffX5_3 : FF RX5 5 3 (.array .int) := ⟨RX5, TX5, 8, tyX5, rfl, tyX5_ok, nmX5, rfl, by decide +kernel, rfl⟩
theorem ffX5_4 : FF RX5 5 4 (.array .int) := ⟨RX5, TX5, 8, tyX5, rfl, tyX5_ok, nmX5, rfl, by decide +kernel, rfl⟩
theorem ffX5_5 : FF RX5 5 5 (.array .int) := ⟨RX5, TX5, 8, tyX5, rfl, tyX5_ok, nmX5, rfl, by decide +kernel, rfl⟩
theorem ffX5_6 : FF RX5 5 6 (.array .boolean) := ⟨RX5, TX5, 8, tyX5, rfl, tyX5_ok, nmX5, rfl, by decide +kernel, rfl⟩
theorem fiX5 : MFi mX5_init := ⟨aw_me (tin_1 (List.mem_of_getElem? (i := 93) rfl)) rfl, aw_me (dkT_at _ _ ctT_0 3 _ rfl) rfl, ⟨by decide +kernel, by decide +kernel, by decide +kernel⟩, by decide, rfl, aw_me (dkT_at _ _ ctT_0 27 _ rfl) rfl, rfl⟩
theorem inX5_ : Cond.instantiable RX5 8 ∈ aw_tb := aw_me (dkT_at _ _ ctT_0 25 _ rfl) rfl
theorem ffX6_0 : FF RX6 6 0 (.object "ManyNames$Folk") := ⟨RX6, TX6, 13, tyX6, rfl, tyX6_ok, nmX6, rfl, by decide +kernel, rfl⟩
theorem ffX6_1 : FF RX6 6 1 (.object "ManyNames$Ties") := ⟨RX6, TX6, 13, tyX6, rfl, tyX6_ok, nmX6, rfl, by decide +kernel, rfl⟩
theorem ffX6_2 : FF RX6 6 2 (.object "ManyNames$Words") := ⟨RX6, TX6, 13, tyX6, rfl, tyX6_ok, nmX6, rfl, by decide +kernel, rfl⟩
theorem ffX6_3 : FF RX6 6 3 (.object "ManyNames$Tape") := ⟨RX6, TX6, 13, tyX6, rfl, tyX6_ok, nmX6, rfl, by decide +kernel, rfl⟩
theorem ffX6_4 : FF RX6 6 4 (.object "ManyNames$Flow") := ⟨RX6, TX6, 13, tyX6, rfl, tyX6_ok, nmX6, rfl, by decide +kernel, rfl⟩
theorem ffX6_5 : FF RX6 6 5 (.array (.object "ManyNames$Sheet")) := ⟨RX6, TX6, 13, tyX6, rfl, tyX6_ok, nmX6, rfl, by decide +kernel, rfl⟩
theorem ffX6_6 : FF RX6 6 6 (.array .int) := ⟨RX6, TX6, 13, tyX6, rfl, tyX6_ok, nmX6, rfl, by decide +kernel, rfl⟩
theorem ffX6_7 : FF RX6 6 7 (.array .int) := ⟨RX6, TX6, 13, tyX6, rfl, tyX6_ok, nmX6, rfl, by decide +kernel, rfl⟩
theorem ffX6_8 : FF RX6 6 8 (.array .int) := ⟨RX6, TX6, 13, tyX6, rfl, tyX6_ok, nmX6, rfl, by decide +kernel, rfl⟩
theorem ffX6_9 : FF RX6 6 9 (.array .int) := ⟨RX6, TX6, 13, tyX6, rfl, tyX6_ok, nmX6, rfl, by decide +kernel, rfl⟩
theorem ffX6_10 : FF RX6 6 10 (.array .int) := ⟨RX6, TX6, 13, tyX6, rfl, tyX6_ok, nmX6, rfl, by decide +kernel, rfl⟩
theorem fiX6 : MFi mX6_init := ⟨aw_me (tin_1 (List.mem_of_getElem? (i := 21) rfl)) rfl, aw_me (dkT_at _ _ ctT_0 0 _ rfl) rfl, ⟨by decide +kernel, by decide +kernel, by decide +kernel⟩, by decide, rfl, aw_me (dkT_at _ _ ctT_0 9 _ rfl) rfl, rfl⟩
theorem inX6_ : Cond.instantiable RX6 13 ∈ aw_tb := aw_me (dkT_at _ _ ctT_0 8 _ rfl) rfl
theorem ffX7_1 : FF RX7 7 1 (.array .int) := ⟨RX7, TX7, 44, tyX7, rfl, tyX7_ok, nmX7, rfl, by decide +kernel, rfl⟩
theorem ffX7_2 : FF RX7 7 2 (.array .boolean) := ⟨RX7, TX7, 44, tyX7, rfl, tyX7_ok, nmX7, rfl, by decide +kernel, rfl⟩
theorem ffX7_3 : FF RX7 7 3 (.array .boolean) := ⟨RX7, TX7, 44, tyX7, rfl, tyX7_ok, nmX7, rfl, by decide +kernel, rfl⟩
theorem ffX7_4 : FF RX7 7 4 (.array .int) := ⟨RX7, TX7, 44, tyX7, rfl, tyX7_ok, nmX7, rfl, by decide +kernel, rfl⟩
theorem ffX7_5 : FF RX7 7 5 (.array .int) := ⟨RX7, TX7, 44, tyX7, rfl, tyX7_ok, nmX7, rfl, by decide +kernel, rfl⟩
theorem ffX7_7 : FF RX7 7 7 (.array .int) := ⟨RX7, TX7, 44, tyX7, rfl, tyX7_ok, nmX7, rfl, by decide +kernel, rfl⟩
theorem ffX7_8 : FF RX7 7 8 (.array .int) := ⟨RX7, TX7, 44, tyX7, rfl, tyX7_ok, nmX7, rfl, by decide +kernel, rfl⟩
theorem ffX7_9 : FF RX7 7 9 (.array .int) := ⟨RX7, TX7, 44, tyX7, rfl, tyX7_ok, nmX7, rfl, by decide +kernel, rfl⟩
theorem ffX7_10 : FF RX7 7 10 (.array .int) := ⟨RX7, TX7, 44, tyX7, rfl, tyX7_ok, nmX7, rfl, by decide +kernel, rfl⟩
theorem ffX7_11 : FF RX7 7 11 (.array .int) := ⟨RX7, TX7, 44, tyX7, rfl, tyX7_ok, nmX7, rfl, by decide +kernel, rfl⟩
theorem ffX7_13 : FF RX7 7 13 (.array .int) := ⟨RX7, TX7, 44, tyX7, rfl, tyX7_ok, nmX7, rfl, by decide +kernel, rfl⟩
theorem ffX7_14 : FF RX7 7 14 (.array .int) := ⟨RX7, TX7, 44, tyX7, rfl, tyX7_ok, nmX7, rfl, by decide +kernel, rfl⟩
theorem ffX7_15 : FF RX7 7 15 (.array .boolean) := ⟨RX7, TX7, 44, tyX7, rfl, tyX7_ok, nmX7, rfl, by decide +kernel, rfl⟩
theorem ffX7_16 : FF RX7 7 16 (.array .int) := ⟨RX7, TX7, 44, tyX7, rfl, tyX7_ok, nmX7, rfl, by decide +kernel, rfl⟩
theorem ffX7_24 : FF RX7 7 24 (.array .int) := ⟨RX7, TX7, 44, tyX7, rfl, tyX7_ok, nmX7, rfl, by decide +kernel, rfl⟩
theorem ffX7_25 : FF RX7 7 25 (.array .int) := ⟨RX7, TX7, 44, tyX7, rfl, tyX7_ok, nmX7, rfl, by decide +kernel, rfl⟩
theorem ffX7_26 : FF RX7 7 26 (.array .int) := ⟨RX7, TX7, 44, tyX7, rfl, tyX7_ok, nmX7, rfl, by decide +kernel, rfl⟩
theorem ffX7_28 : FF RX7 7 28 (.array .int) := ⟨RX7, TX7, 44, tyX7, rfl, tyX7_ok, nmX7, rfl, by decide +kernel, rfl⟩
theorem ffX7_29 : FF RX7 7 29 (.array .int) := ⟨RX7, TX7, 44, tyX7, rfl, tyX7_ok, nmX7, rfl, by decide +kernel, rfl⟩
theorem ffX7_30 : FF RX7 7 30 (.array .int) := ⟨RX7, TX7, 44, tyX7, rfl, tyX7_ok, nmX7, rfl, by decide +kernel, rfl⟩
theorem ffX7_31 : FF RX7 7 31 (.array .int) := ⟨RX7, TX7, 44, tyX7, rfl, tyX7_ok, nmX7, rfl, by decide +kernel, rfl⟩
theorem ffX7_32 : FF RX7 7 32 (.array .int) := ⟨RX7, TX7, 44, tyX7, rfl, tyX7_ok, nmX7, rfl, by decide +kernel, rfl⟩
theorem ffX7_34 : FF RX7 7 34 (.array .int) := ⟨RX7, TX7, 44, tyX7, rfl, tyX7_ok, nmX7, rfl, by decide +kernel, rfl⟩
theorem ffX7_35 : FF RX7 7 35 (.array .int) := ⟨RX7, TX7, 44, tyX7, rfl, tyX7_ok, nmX7, rfl, by decide +kernel, rfl⟩
theorem ffX7_40 : FF RX7 7 40 (.array .int) := ⟨RX7, TX7, 44, tyX7, rfl, tyX7_ok, nmX7, rfl, by decide +kernel, rfl⟩
theorem ffX7_41 : FF RX7 7 41 (.array .int) := ⟨RX7, TX7, 44, tyX7, rfl, tyX7_ok, nmX7, rfl, by decide +kernel, rfl⟩
theorem ffX7_42 : FF RX7 7 42 (.array .int) := ⟨RX7, TX7, 44, tyX7, rfl, tyX7_ok, nmX7, rfl, by decide +kernel, rfl⟩
theorem fiX7 : MFi mX7_init := ⟨aw_me (tin_4 (List.mem_of_getElem? (i := 46) rfl)) rfl, aw_me (dkT_at _ _ ctT_0 7 _ rfl) rfl, ⟨by decide +kernel, by decide +kernel, by decide +kernel⟩, by decide, rfl, aw_me (dkT_at _ _ ctT_1 15 _ rfl) rfl, rfl⟩
theorem inX7_ : Cond.instantiable RX7 44 ∈ aw_tb := aw_me (dkT_at _ _ ctT_1 14 _ rfl) rfl
theorem sl_66 : Cond.fieldLink RX6 66 "ManyNames" (aw_sn 0) "[I" ∈ aw_tb := aw_me (dkT_at _ _ ctT_1 9 _ rfl) rfl
def SX1 (z : G6) (h0 : Nat) (ws : va_W) : Prop := ∃ q0 q1 q2 q3 q4 : Nat, ws = [(h0, .inr (1, [.ref q0, .ref q1, .ref q2, .ref q3, .ref q4, .int 0])), (q0, .inl (z.2.2.1, 12, .inl (fun _ => 0))), (q1, .inl (z.2.2.2.1, 12, .inl (fun _ => 0))), (q2, .inl (z.2.2.2.1, 12, .inl (fun _ => 0))), (q3, .inl (z.2.2.1, 12, .inl (fun _ => 0))), (q4, .inl (z.2.2.1, 12, .inl (fun _ => 0)))]
set_option maxHeartbeats 8000000 in
set_option maxRecDepth 100000 in
theorem nX1 (z : G6) (h0 : Nat) : NCT z 1 5 60 mX1_init h0 (.inr (1, [.null, .null, .null, .null, .null, .int 0])) (SX1 z h0) := by
  refine NCT.of (by decide) rfl [some (.ref h0)] 0 rfl (Nat.le_of_ble_eq_true rfl) (fun k K hnm hret => ?_)
  refine gw_al0 K dX1_init_0 ?_
  refine gw_objInit K oiL1 oiI oiC (Nat.le_of_ble_eq_true rfl) (Nat.le_of_ble_eq_true rfl) dX1_init_1 ?_
  refine gw_al0 K dX1_init_4 ?_
  refine gw_bipush (v := 12) K dX1_init_5 (by decide) ?_
  refine gw_newI K acI (by decide) (N := 12) (by decide) (by decide) (Nat.le_of_ble_eq_true rfl) (Nat.le_of_ble_eq_true rfl) dX1_init_7 (fun q0 => ?_)
  refine gw_putF K hnm (q0 := 0) gX1_9 ffX1_0 rfl rfl rfl (Nat.le_of_ble_eq_true rfl) dX1_init_9 ?_
  refine gw_al0 K dX1_init_12 ?_
  refine gw_bipush (v := 12) K dX1_init_13 (by decide) ?_
  refine gw_newZ K acZ (by decide) (N := 12) (by decide) (by decide) (Nat.le_of_ble_eq_true rfl) (Nat.le_of_ble_eq_true rfl) dX1_init_15 (fun q1 => ?_)
  refine gw_putF K hnm (q0 := 0) gX1_15 ffX1_1 rfl rfl rfl (Nat.le_of_ble_eq_true rfl) dX1_init_17 ?_
  refine gw_al0 K dX1_init_20 ?_
  refine gw_bipush (v := 12) K dX1_init_21 (by decide) ?_
  refine gw_newZ K acZ (by decide) (N := 12) (by decide) (by decide) (Nat.le_of_ble_eq_true rfl) (Nat.le_of_ble_eq_true rfl) dX1_init_23 (fun q2 => ?_)
  refine gw_putF K hnm (q0 := 0) gX1_19 ffX1_2 rfl rfl rfl (Nat.le_of_ble_eq_true rfl) dX1_init_25 ?_
  refine gw_al0 K dX1_init_28 ?_
  refine gw_bipush (v := 12) K dX1_init_29 (by decide) ?_
  refine gw_newI K acI (by decide) (N := 12) (by decide) (by decide) (Nat.le_of_ble_eq_true rfl) (Nat.le_of_ble_eq_true rfl) dX1_init_31 (fun q3 => ?_)
  refine gw_putF K hnm (q0 := 0) gX1_22 ffX1_3 rfl rfl rfl (Nat.le_of_ble_eq_true rfl) dX1_init_33 ?_
  refine gw_al0 K dX1_init_36 ?_
  refine gw_bipush (v := 12) K dX1_init_37 (by decide) ?_
  refine gw_newI K acI (by decide) (N := 12) (by decide) (by decide) (Nat.le_of_ble_eq_true rfl) (Nat.le_of_ble_eq_true rfl) dX1_init_39 (fun q4 => ?_)
  refine gw_putF K hnm (q0 := 0) gX1_25 ffX1_4 rfl rfl rfl (Nat.le_of_ble_eq_true rfl) dX1_init_41 ?_
  exact gw_vret K hret rfl dX1_init_44 rfl rfl ⟨q0, q1, q2, q3, q4, rfl⟩
def SX4 (z : G6) (h0 : Nat) (ws : va_W) : Prop := ∃ q0 q1 q2 q3 q4 : Nat, ws = [(h0, .inr (4, [.ref q0, .ref q1, .ref q2, .ref q3, .ref q4, .int 0])), (q0, .inl (z.2.2.1, 24, .inl (fun _ => 0))), (q1, .inl (z.2.2.1, 24, .inl (fun _ => 0))), (q2, .inl (z.2.2.1, 24, .inl (fun _ => 0))), (q3, .inl (z.2.2.1, 24, .inl (fun _ => 0))), (q4, .inl (z.2.2.1, 24, .inl (fun _ => 0)))]
set_option maxHeartbeats 8000000 in
set_option maxRecDepth 100000 in
theorem nX4 (z : G6) (h0 : Nat) : NCT z 1 5 120 mX4_init h0 (.inr (4, [.null, .null, .null, .null, .null, .int 0])) (SX4 z h0) := by
  refine NCT.of (by decide) rfl [some (.ref h0)] 0 rfl (Nat.le_of_ble_eq_true rfl) (fun k K hnm hret => ?_)
  refine gw_al0 K dX4_init_0 ?_
  refine gw_objInit K oiL4 oiI oiC (Nat.le_of_ble_eq_true rfl) (Nat.le_of_ble_eq_true rfl) dX4_init_1 ?_
  refine gw_al0 K dX4_init_4 ?_
  refine gw_bipush (v := 24) K dX4_init_5 (by decide) ?_
  refine gw_newI K acI (by decide) (N := 24) (by decide) (by decide) (Nat.le_of_ble_eq_true rfl) (Nat.le_of_ble_eq_true rfl) dX4_init_7 (fun q0 => ?_)
  refine gw_putF K hnm (q0 := 0) gX4_9 ffX4_0 rfl rfl rfl (Nat.le_of_ble_eq_true rfl) dX4_init_9 ?_
  refine gw_al0 K dX4_init_12 ?_
  refine gw_bipush (v := 24) K dX4_init_13 (by decide) ?_
  refine gw_newI K acI (by decide) (N := 24) (by decide) (by decide) (Nat.le_of_ble_eq_true rfl) (Nat.le_of_ble_eq_true rfl) dX4_init_15 (fun q1 => ?_)
  refine gw_putF K hnm (q0 := 0) gX4_15 ffX4_1 rfl rfl rfl (Nat.le_of_ble_eq_true rfl) dX4_init_17 ?_
  refine gw_al0 K dX4_init_20 ?_
  refine gw_bipush (v := 24) K dX4_init_21 (by decide) ?_
  refine gw_newI K acI (by decide) (N := 24) (by decide) (by decide) (Nat.le_of_ble_eq_true rfl) (Nat.le_of_ble_eq_true rfl) dX4_init_23 (fun q2 => ?_)
  refine gw_putF K hnm (q0 := 0) gX4_18 ffX4_2 rfl rfl rfl (Nat.le_of_ble_eq_true rfl) dX4_init_25 ?_
  refine gw_al0 K dX4_init_28 ?_
  refine gw_bipush (v := 24) K dX4_init_29 (by decide) ?_
  refine gw_newI K acI (by decide) (N := 24) (by decide) (by decide) (Nat.le_of_ble_eq_true rfl) (Nat.le_of_ble_eq_true rfl) dX4_init_31 (fun q3 => ?_)
  refine gw_putF K hnm (q0 := 0) gX4_21 ffX4_3 rfl rfl rfl (Nat.le_of_ble_eq_true rfl) dX4_init_33 ?_
  refine gw_al0 K dX4_init_36 ?_
  refine gw_bipush (v := 24) K dX4_init_37 (by decide) ?_
  refine gw_newI K acI (by decide) (N := 24) (by decide) (by decide) (Nat.le_of_ble_eq_true rfl) (Nat.le_of_ble_eq_true rfl) dX4_init_39 (fun q4 => ?_)
  refine gw_putF K hnm (q0 := 0) gX4_24 ffX4_4 rfl rfl rfl (Nat.le_of_ble_eq_true rfl) dX4_init_41 ?_
  exact gw_vret K hret rfl dX4_init_44 rfl rfl ⟨q0, q1, q2, q3, q4, rfl⟩
def SX5 (z : G6) (h0 : Nat) (ws : va_W) : Prop := ∃ q0 q1 q2 q3 q4 q5 q6 : Nat, ws = [(h0, .inr (5, [.ref q0, .ref q1, .ref q2, .ref q3, .ref q4, .ref q5, .ref q6, .int 0])), (q0, .inl (z.2.2.1, 24, .inl (fun _ => 0))), (q1, .inl (z.2.2.1, 24, .inl (fun _ => 0))), (q2, .inl (z.2.2.1, 24, .inl (fun _ => 0))), (q3, .inl (z.2.2.1, 24, .inl (fun _ => 0))), (q4, .inl (z.2.2.1, 24, .inl (fun _ => 0))), (q5, .inl (z.2.2.1, 24, .inl (fun _ => 0))), (q6, .inl (z.2.2.2.1, 24, .inl (fun _ => 0)))]
set_option maxHeartbeats 8000000 in
set_option maxRecDepth 100000 in
theorem nX5 (z : G6) (h0 : Nat) : NCT z 1 7 168 mX5_init h0 (.inr (5, [.null, .null, .null, .null, .null, .null, .null, .int 0])) (SX5 z h0) := by
  refine NCT.of (by decide) rfl [some (.ref h0)] 0 rfl (Nat.le_of_ble_eq_true rfl) (fun k K hnm hret => ?_)
  refine gw_al0 K dX5_init_0 ?_
  refine gw_objInit K oiL5 oiI oiC (Nat.le_of_ble_eq_true rfl) (Nat.le_of_ble_eq_true rfl) dX5_init_1 ?_
  refine gw_al0 K dX5_init_4 ?_
  refine gw_bipush (v := 24) K dX5_init_5 (by decide) ?_
  refine gw_newI K acI (by decide) (N := 24) (by decide) (by decide) (Nat.le_of_ble_eq_true rfl) (Nat.le_of_ble_eq_true rfl) dX5_init_7 (fun q0 => ?_)
  refine gw_putF K hnm (q0 := 0) gX5_9 ffX5_0 rfl rfl rfl (Nat.le_of_ble_eq_true rfl) dX5_init_9 ?_
  refine gw_al0 K dX5_init_12 ?_
  refine gw_bipush (v := 24) K dX5_init_13 (by decide) ?_
  refine gw_newI K acI (by decide) (N := 24) (by decide) (by decide) (Nat.le_of_ble_eq_true rfl) (Nat.le_of_ble_eq_true rfl) dX5_init_15 (fun q1 => ?_)
  refine gw_putF K hnm (q0 := 0) gX5_15 ffX5_1 rfl rfl rfl (Nat.le_of_ble_eq_true rfl) dX5_init_17 ?_
  refine gw_al0 K dX5_init_20 ?_
  refine gw_bipush (v := 24) K dX5_init_21 (by decide) ?_
  refine gw_newI K acI (by decide) (N := 24) (by decide) (by decide) (Nat.le_of_ble_eq_true rfl) (Nat.le_of_ble_eq_true rfl) dX5_init_23 (fun q2 => ?_)
  refine gw_putF K hnm (q0 := 0) gX5_18 ffX5_2 rfl rfl rfl (Nat.le_of_ble_eq_true rfl) dX5_init_25 ?_
  refine gw_al0 K dX5_init_28 ?_
  refine gw_bipush (v := 24) K dX5_init_29 (by decide) ?_
  refine gw_newI K acI (by decide) (N := 24) (by decide) (by decide) (Nat.le_of_ble_eq_true rfl) (Nat.le_of_ble_eq_true rfl) dX5_init_31 (fun q3 => ?_)
  refine gw_putF K hnm (q0 := 0) gX5_21 ffX5_3 rfl rfl rfl (Nat.le_of_ble_eq_true rfl) dX5_init_33 ?_
  refine gw_al0 K dX5_init_36 ?_
  refine gw_bipush (v := 24) K dX5_init_37 (by decide) ?_
  refine gw_newI K acI (by decide) (N := 24) (by decide) (by decide) (Nat.le_of_ble_eq_true rfl) (Nat.le_of_ble_eq_true rfl) dX5_init_39 (fun q4 => ?_)
  refine gw_putF K hnm (q0 := 0) gX5_24 ffX5_4 rfl rfl rfl (Nat.le_of_ble_eq_true rfl) dX5_init_41 ?_
  refine gw_al0 K dX5_init_44 ?_
  refine gw_bipush (v := 24) K dX5_init_45 (by decide) ?_
  refine gw_newI K acI (by decide) (N := 24) (by decide) (by decide) (Nat.le_of_ble_eq_true rfl) (Nat.le_of_ble_eq_true rfl) dX5_init_47 (fun q5 => ?_)
  refine gw_putF K hnm (q0 := 0) gX5_27 ffX5_5 rfl rfl rfl (Nat.le_of_ble_eq_true rfl) dX5_init_49 ?_
  refine gw_al0 K dX5_init_52 ?_
  refine gw_bipush (v := 24) K dX5_init_53 (by decide) ?_
  refine gw_newZ K acZ (by decide) (N := 24) (by decide) (by decide) (Nat.le_of_ble_eq_true rfl) (Nat.le_of_ble_eq_true rfl) dX5_init_55 (fun q6 => ?_)
  refine gw_putF K hnm (q0 := 0) gX5_30 ffX5_6 rfl rfl rfl (Nat.le_of_ble_eq_true rfl) dX5_init_57 ?_
  exact gw_vret K hret rfl dX5_init_60 rfl rfl ⟨q0, q1, q2, q3, q4, q5, q6, rfl⟩
def SX3 (z : G6) (h0 : Nat) (ws : va_W) : Prop := ∃ q0 : Nat, ws = [(h0, .inr (3, [.ref q0, .int 0, .int 0, .int 0, .int 0, .int 0, .int 0, .int 0])), (q0, .inl (z.2.2.1, 200, .inl (fun _ => 0)))]
set_option maxHeartbeats 8000000 in
set_option maxRecDepth 100000 in
theorem nX3 (z : G6) (h0 : Nat) : NCT z 1 1 200 mX3_init h0 (.inr (3, [.null, .int 0, .int 0, .int 0, .int 0, .int 0, .int 0, .int 0])) (SX3 z h0) := by
  refine NCT.of (by decide) rfl [some (.ref h0)] 0 rfl (Nat.le_of_ble_eq_true rfl) (fun k K hnm hret => ?_)
  refine gw_al0 K dX3_init_0 ?_
  refine gw_objInit K oiL3 oiI oiC (Nat.le_of_ble_eq_true rfl) (Nat.le_of_ble_eq_true rfl) dX3_init_1 ?_
  refine gw_al0 K dX3_init_4 ?_
  refine gw_sipush (v := 200) K dX3_init_5 (by decide) ?_
  refine gw_newI K acI (by decide) (N := 200) (by decide) (by decide) (Nat.le_of_ble_eq_true rfl) (Nat.le_of_ble_eq_true rfl) dX3_init_8 (fun q0 => ?_)
  refine gw_putF K hnm (q0 := 0) gX3_11 ffX3_0 rfl rfl rfl (Nat.le_of_ble_eq_true rfl) dX3_init_10 ?_
  exact gw_vret K hret rfl dX3_init_13 rfl rfl ⟨q0, rfl⟩
def SX0 (z : G6) (h0 : Nat) (ws : va_W) : Prop := ∃ q0 q1 q2 q3 q4 q5 : Nat, ws = [(h0, .inr (0, [.ref q0, .ref q1, .ref q2, .ref q3, .ref q4, .ref q5, .int 0])), (q0, .inl (z.2.2.1, 196, .inl (fun _ => 0))), (q1, .inl (z.2.2.1, 14, .inl (fun _ => 0))), (q2, .inl (z.2.2.1, 196, .inl (fun _ => 0))), (q3, .inl (z.2.2.1, 14, .inl (fun _ => 0))), (q4, .inl (z.2.2.1, 14, .inl (fun _ => 0))), (q5, .inl (z.2.2.1, 14, .inl (fun _ => 0)))]
set_option maxHeartbeats 8000000 in
set_option maxRecDepth 100000 in
theorem nX0 (z : G6) (h0 : Nat) : NCT z 1 6 448 mX0_init h0 (.inr (0, [.null, .null, .null, .null, .null, .null, .int 0])) (SX0 z h0) := by
  refine NCT.of (by decide) rfl [some (.ref h0)] 0 rfl (Nat.le_of_ble_eq_true rfl) (fun k K hnm hret => ?_)
  refine gw_al0 K dX0_init_0 ?_
  refine gw_objInit K oiL0 oiI oiC (Nat.le_of_ble_eq_true rfl) (Nat.le_of_ble_eq_true rfl) dX0_init_1 ?_
  refine gw_al0 K dX0_init_4 ?_
  refine gw_sipush (v := 196) K dX0_init_5 (by decide) ?_
  refine gw_newI K acI (by decide) (N := 196) (by decide) (by decide) (Nat.le_of_ble_eq_true rfl) (Nat.le_of_ble_eq_true rfl) dX0_init_8 (fun q0 => ?_)
  refine gw_putF K hnm (q0 := 0) gX0_11 ffX0_0 rfl rfl rfl (Nat.le_of_ble_eq_true rfl) dX0_init_10 ?_
  refine gw_al0 K dX0_init_13 ?_
  refine gw_bipush (v := 14) K dX0_init_14 (by decide) ?_
  refine gw_newI K acI (by decide) (N := 14) (by decide) (by decide) (Nat.le_of_ble_eq_true rfl) (Nat.le_of_ble_eq_true rfl) dX0_init_16 (fun q1 => ?_)
  refine gw_putF K hnm (q0 := 0) gX0_15 ffX0_1 rfl rfl rfl (Nat.le_of_ble_eq_true rfl) dX0_init_18 ?_
  refine gw_al0 K dX0_init_21 ?_
  refine gw_sipush (v := 196) K dX0_init_22 (by decide) ?_
  refine gw_newI K acI (by decide) (N := 196) (by decide) (by decide) (Nat.le_of_ble_eq_true rfl) (Nat.le_of_ble_eq_true rfl) dX0_init_25 (fun q2 => ?_)
  refine gw_putF K hnm (q0 := 0) gX0_18 ffX0_2 rfl rfl rfl (Nat.le_of_ble_eq_true rfl) dX0_init_27 ?_
  refine gw_al0 K dX0_init_30 ?_
  refine gw_bipush (v := 14) K dX0_init_31 (by decide) ?_
  refine gw_newI K acI (by decide) (N := 14) (by decide) (by decide) (Nat.le_of_ble_eq_true rfl) (Nat.le_of_ble_eq_true rfl) dX0_init_33 (fun q3 => ?_)
  refine gw_putF K hnm (q0 := 0) gX0_21 ffX0_3 rfl rfl rfl (Nat.le_of_ble_eq_true rfl) dX0_init_35 ?_
  refine gw_al0 K dX0_init_38 ?_
  refine gw_bipush (v := 14) K dX0_init_39 (by decide) ?_
  refine gw_newI K acI (by decide) (N := 14) (by decide) (by decide) (Nat.le_of_ble_eq_true rfl) (Nat.le_of_ble_eq_true rfl) dX0_init_41 (fun q4 => ?_)
  refine gw_putF K hnm (q0 := 0) gX0_24 ffX0_4 rfl rfl rfl (Nat.le_of_ble_eq_true rfl) dX0_init_43 ?_
  refine gw_al0 K dX0_init_46 ?_
  refine gw_bipush (v := 14) K dX0_init_47 (by decide) ?_
  refine gw_newI K acI (by decide) (N := 14) (by decide) (by decide) (Nat.le_of_ble_eq_true rfl) (Nat.le_of_ble_eq_true rfl) dX0_init_49 (fun q5 => ?_)
  refine gw_putF K hnm (q0 := 0) gX0_27 ffX0_5 rfl rfl rfl (Nat.le_of_ble_eq_true rfl) dX0_init_51 ?_
  exact gw_vret K hret rfl dX0_init_54 rfl rfl ⟨q0, q1, q2, q3, q4, q5, rfl⟩
def SX2 (z : G6) (h0 : Nat) (ws : va_W) : Prop := ∃ q0 : Nat, ws = [(h0, .inr (2, [.ref q0, .int 0, .int (-1)])), (q0, .inl (z.2.2.1, 48, .inl (fun _ => 0)))]
set_option maxHeartbeats 8000000 in
set_option maxRecDepth 100000 in
theorem nX2 (z : G6) (h0 : Nat) : NCT z 1 1 48 mX2_init h0 (.inr (2, [.null, .int 0, .int 0])) (SX2 z h0) := by
  refine NCT.of (by decide) rfl [some (.ref h0)] 0 rfl (Nat.le_of_ble_eq_true rfl) (fun k K hnm hret => ?_)
  refine gw_al0 K dX2_init_0 ?_
  refine gw_objInit K oiL2 oiI oiC (Nat.le_of_ble_eq_true rfl) (Nat.le_of_ble_eq_true rfl) dX2_init_1 ?_
  refine gw_al0 K dX2_init_4 ?_
  refine gw_bipush (v := 48) K dX2_init_5 (by decide) ?_
  refine gw_newI K acI (by decide) (N := 48) (by decide) (by decide) (Nat.le_of_ble_eq_true rfl) (Nat.le_of_ble_eq_true rfl) dX2_init_7 (fun q0 => ?_)
  refine gw_putF K hnm (q0 := 0) gX2_11 ffX2_0 rfl rfl rfl (Nat.le_of_ble_eq_true rfl) dX2_init_9 ?_
  refine gw_al0 K dX2_init_12 ?_
  refine gw_iconst (v := (-1)) K dX2_init_13 (by decide) ?_
  refine gw_put K (q0 := 0) gX2_15 fpX2_2 rfl rfl rfl (Nat.le_of_ble_eq_true rfl) dX2_init_14 ?_
  exact gw_vret K hret rfl dX2_init_17 rfl rfl ⟨q0, rfl⟩
