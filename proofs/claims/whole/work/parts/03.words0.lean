theorem tb0 {w : Cond} (h : w ∈ k2_sels lw_privs) (g : goodWord w = true) : w ∈ lG := List.mem_filter.mpr ⟨List.mem_append_left _ h, g⟩
theorem tb1 {w : Cond} (h : w ∈ tables_1_1) (g : goodWord w = true) : w ∈ lG := List.mem_filter.mpr ⟨List.mem_append_right _ (List.mem_append_left _ h), g⟩
theorem tb2 {w : Cond} (h : w ∈ tables_1_2) (g : goodWord w = true) : w ∈ lG := List.mem_filter.mpr ⟨List.mem_append_right _ (List.mem_append_right _ (List.mem_append_left _ h)), g⟩
theorem tb3 {w : Cond} (h : w ∈ tables_1_3) (g : goodWord w = true) : w ∈ lG := List.mem_filter.mpr ⟨List.mem_append_right _ (List.mem_append_right _ (List.mem_append_right _ (List.mem_append_left _ h))), g⟩
theorem tb4 {w : Cond} (h : w ∈ tables_1_4) (g : goodWord w = true) : w ∈ lG := List.mem_filter.mpr ⟨List.mem_append_right _ (List.mem_append_right _ (List.mem_append_right _ (List.mem_append_right _ h))), g⟩
theorem m_0 : (Jvm.Cond.selects "CircuitSimulator" ({ cls := "CircuitSimulator", name := "settleIfBuilt", desc := "()V" } : Jvm.MethodName) ({ cls := "CircuitSimulator", name := "settleIfBuilt", desc := "()V" } : Jvm.MethodName)) ∈ lG := tb0 (List.mem_of_getElem? (i := 0) (by decide +kernel)) rfl
theorem m_1 : (Jvm.Cond.selects "CircuitSimulator" ({ cls := "CircuitSimulator", name := "settle", desc := "()V" } : Jvm.MethodName) ({ cls := "CircuitSimulator", name := "settle", desc := "()V" } : Jvm.MethodName)) ∈ lG := tb0 (List.mem_of_getElem? (i := 1) (by decide +kernel)) rfl
theorem m_2 : (Jvm.Cond.selects "CircuitSimulator" ({ cls := "CircuitSimulator", name := "driven", desc := "(I)I" } : Jvm.MethodName) ({ cls := "CircuitSimulator", name := "driven", desc := "(I)I" } : Jvm.MethodName)) ∈ lG := tb0 (List.mem_of_getElem? (i := 2) (by decide +kernel)) rfl
theorem m_3 : (Jvm.Cond.selects "CircuitSimulator" ({ cls := "CircuitSimulator", name := "inputAt", desc := "(II)I" } : Jvm.MethodName) ({ cls := "CircuitSimulator", name := "inputAt", desc := "(II)I" } : Jvm.MethodName)) ∈ lG := tb0 (List.mem_of_getElem? (i := 3) (by decide +kernel)) rfl
theorem m_4 : (Jvm.Cond.selects "java/lang/Throwable" ({ cls := "java/lang/Throwable", name := "fillInStackTrace", desc := "(I)Ljava/lang/Throwable;" } : Jvm.MethodName) ({ cls := "java/lang/Throwable", name := "fillInStackTrace", desc := "(I)Ljava/lang/Throwable;" } : Jvm.MethodName)) ∈ lG := tb0 (List.mem_of_getElem? (i := 4) (by decide +kernel)) rfl
theorem m_5 : (Jvm.Cond.selects "CircuitSimulator" ({ cls := "CircuitSimulator", name := "partsOf", desc := "(I)LCircuitSimulator$Cells;" } : Jvm.MethodName) ({ cls := "CircuitSimulator", name := "partsOf", desc := "(I)LCircuitSimulator$Cells;" } : Jvm.MethodName)) ∈ lG := tb0 (List.mem_of_getElem? (i := 5) (by decide +kernel)) rfl
theorem m_6 : (Jvm.Cond.selects "CircuitSimulator$Placement" ({ cls := "CircuitSimulator$Placement", name := "findNamed", desc := "(LCircuitSimulator$Cells;)V" } : Jvm.MethodName) ({ cls := "CircuitSimulator$Placement", name := "findNamed", desc := "(LCircuitSimulator$Cells;)V" } : Jvm.MethodName)) ∈ lG := tb0 (List.mem_of_getElem? (i := 6) (by decide +kernel)) rfl
theorem m_7 : (Jvm.Cond.selects "CircuitSimulator$Placement" ({ cls := "CircuitSimulator$Placement", name := "clashesWithEarlier", desc := "(LCircuitSimulator$Cells;II)Z" } : Jvm.MethodName) ({ cls := "CircuitSimulator$Placement", name := "clashesWithEarlier", desc := "(LCircuitSimulator$Cells;II)Z" } : Jvm.MethodName)) ∈ lG := tb0 (List.mem_of_getElem? (i := 7) (by decide +kernel)) rfl
theorem m_8 : (Jvm.Cond.selects "CircuitSimulator$Placement" ({ cls := "CircuitSimulator$Placement", name := "placed", desc := "(LCircuitSimulator$Cells;II)I" } : Jvm.MethodName) ({ cls := "CircuitSimulator$Placement", name := "placed", desc := "(LCircuitSimulator$Cells;II)I" } : Jvm.MethodName)) ∈ lG := tb0 (List.mem_of_getElem? (i := 8) (by decide +kernel)) rfl
theorem m_9 : (Jvm.Cond.selects "CircuitSimulator$Levels" ({ cls := "CircuitSimulator$Levels", name := "begin", desc := "(LCircuitSimulator$Cells;I)V" } : Jvm.MethodName) ({ cls := "CircuitSimulator$Levels", name := "begin", desc := "(LCircuitSimulator$Cells;I)V" } : Jvm.MethodName)) ∈ lG := tb0 (List.mem_of_getElem? (i := 9) (by decide +kernel)) rfl
theorem m_10 : (Jvm.Cond.selects "CircuitSimulator$Levels" ({ cls := "CircuitSimulator$Levels", name := "rankOneLevel", desc := "(LCircuitSimulator$Cells;I)V" } : Jvm.MethodName) ({ cls := "CircuitSimulator$Levels", name := "rankOneLevel", desc := "(LCircuitSimulator$Cells;I)V" } : Jvm.MethodName)) ∈ lG := tb0 (List.mem_of_getElem? (i := 10) (by decide +kernel)) rfl
theorem m_11 : (Jvm.Cond.selects "CircuitSimulator$Levels" ({ cls := "CircuitSimulator$Levels", name := "isReady", desc := "(LCircuitSimulator$Cells;II)Z" } : Jvm.MethodName) ({ cls := "CircuitSimulator$Levels", name := "isReady", desc := "(LCircuitSimulator$Cells;II)Z" } : Jvm.MethodName)) ∈ lG := tb0 (List.mem_of_getElem? (i := 11) (by decide +kernel)) rfl
theorem m_12 : (Jvm.Cond.selects "CircuitSimulator$Levels" ({ cls := "CircuitSimulator$Levels", name := "placeNext", desc := "(III)V" } : Jvm.MethodName) ({ cls := "CircuitSimulator$Levels", name := "placeNext", desc := "(III)V" } : Jvm.MethodName)) ∈ lG := tb0 (List.mem_of_getElem? (i := 12) (by decide +kernel)) rfl
theorem m_13 : (Jvm.Cond.selects "CircuitSimulator$Dependence" ({ cls := "CircuitSimulator$Dependence", name := "begin", desc := "(LCircuitSimulator$Cells;)V" } : Jvm.MethodName) ({ cls := "CircuitSimulator$Dependence", name := "begin", desc := "(LCircuitSimulator$Cells;)V" } : Jvm.MethodName)) ∈ lG := tb0 (List.mem_of_getElem? (i := 13) (by decide +kernel)) rfl
theorem m_14 : (Jvm.Cond.selects "CircuitSimulator$Dependence" ({ cls := "CircuitSimulator$Dependence", name := "note", desc := "(II)V" } : Jvm.MethodName) ({ cls := "CircuitSimulator$Dependence", name := "note", desc := "(II)V" } : Jvm.MethodName)) ∈ lG := tb0 (List.mem_of_getElem? (i := 14) (by decide +kernel)) rfl
theorem m_15 : (Jvm.Cond.selects "CircuitSimulator$Dependence" ({ cls := "CircuitSimulator$Dependence", name := "goThrough", desc := "(II)V" } : Jvm.MethodName) ({ cls := "CircuitSimulator$Dependence", name := "goThrough", desc := "(II)V" } : Jvm.MethodName)) ∈ lG := tb0 (List.mem_of_getElem? (i := 15) (by decide +kernel)) rfl
theorem m_16 : (Jvm.Cond.selects "CircuitSimulator$Dependence" ({ cls := "CircuitSimulator$Dependence", name := "isOn", desc := "(II)Z" } : Jvm.MethodName) ({ cls := "CircuitSimulator$Dependence", name := "isOn", desc := "(II)Z" } : Jvm.MethodName)) ∈ lG := tb0 (List.mem_of_getElem? (i := 16) (by decide +kernel)) rfl
theorem m_17 : (Jvm.Cond.selects "CircuitSimulator" ({ cls := "CircuitSimulator", name := "takeInput", desc := "(I)Z" } : Jvm.MethodName) ({ cls := "CircuitSimulator", name := "takeInput", desc := "(I)Z" } : Jvm.MethodName)) ∈ lG := tb0 (List.mem_of_getElem? (i := 17) (by decide +kernel)) rfl
theorem m_18 : (Jvm.Cond.selects "CircuitSimulatorModel" ({ cls := "CircuitSimulatorModel", name := "raise", desc := "(I)I" } : Jvm.MethodName) ({ cls := "CircuitSimulatorModel", name := "raise", desc := "(I)I" } : Jvm.MethodName)) ∈ lG := tb0 (List.mem_of_getElem? (i := 18) (by decide +kernel)) rfl
theorem m_19 : (Jvm.Cond.selects "CircuitSimulatorModel" ({ cls := "CircuitSimulatorModel", name := "mayDrive", desc := "(II)Z" } : Jvm.MethodName) ({ cls := "CircuitSimulatorModel", name := "mayDrive", desc := "(II)Z" } : Jvm.MethodName)) ∈ lG := tb0 (List.mem_of_getElem? (i := 19) (by decide +kernel)) rfl
theorem m_20 : (Jvm.Cond.selects "CircuitSimulatorModel" ({ cls := "CircuitSimulatorModel", name := "add", desc := "(IIIII)V" } : Jvm.MethodName) ({ cls := "CircuitSimulatorModel", name := "add", desc := "(IIIII)V" } : Jvm.MethodName)) ∈ lG := tb0 (List.mem_of_getElem? (i := 20) (by decide +kernel)) rfl
theorem m_21 : (Jvm.Cond.selects "CircuitSimulatorModel" ({ cls := "CircuitSimulatorModel", name := "number", desc := "(III)I" } : Jvm.MethodName) ({ cls := "CircuitSimulatorModel", name := "number", desc := "(III)I" } : Jvm.MethodName)) ∈ lG := tb0 (List.mem_of_getElem? (i := 21) (by decide +kernel)) rfl
theorem m_22 : (Jvm.Cond.selects "CircuitSimulatorModel" ({ cls := "CircuitSimulatorModel", name := "names", desc := "(II)Z" } : Jvm.MethodName) ({ cls := "CircuitSimulatorModel", name := "names", desc := "(II)Z" } : Jvm.MethodName)) ∈ lG := tb0 (List.mem_of_getElem? (i := 22) (by decide +kernel)) rfl
theorem m_23 : (Jvm.Cond.selects "CircuitSimulatorModel" ({ cls := "CircuitSimulatorModel", name := "mayStand", desc := "(I)Z" } : Jvm.MethodName) ({ cls := "CircuitSimulatorModel", name := "mayStand", desc := "(I)Z" } : Jvm.MethodName)) ∈ lG := tb0 (List.mem_of_getElem? (i := 23) (by decide +kernel)) rfl
theorem m_24 : (Jvm.Cond.selects "CircuitSimulatorModel" ({ cls := "CircuitSimulatorModel", name := "looped", desc := "()I" } : Jvm.MethodName) ({ cls := "CircuitSimulatorModel", name := "looped", desc := "()I" } : Jvm.MethodName)) ∈ lG := tb0 (List.mem_of_getElem? (i := 24) (by decide +kernel)) rfl
theorem m_25 : (Jvm.Cond.selects "CircuitSimulatorModel" ({ cls := "CircuitSimulatorModel", name := "close", desc := "()V" } : Jvm.MethodName) ({ cls := "CircuitSimulatorModel", name := "close", desc := "()V" } : Jvm.MethodName)) ∈ lG := tb0 (List.mem_of_getElem? (i := 25) (by decide +kernel)) rfl
theorem m_26 : (Jvm.Cond.selects "CircuitSimulatorModel" ({ cls := "CircuitSimulatorModel", name := "passes", desc := "(I)Z" } : Jvm.MethodName) ({ cls := "CircuitSimulatorModel", name := "passes", desc := "(I)Z" } : Jvm.MethodName)) ∈ lG := tb0 (List.mem_of_getElem? (i := 26) (by decide +kernel)) rfl
theorem m_27 : (Jvm.Cond.selects "CircuitSimulatorModel" ({ cls := "CircuitSimulatorModel", name := "depend", desc := "(II)V" } : Jvm.MethodName) ({ cls := "CircuitSimulatorModel", name := "depend", desc := "(II)V" } : Jvm.MethodName)) ∈ lG := tb0 (List.mem_of_getElem? (i := 27) (by decide +kernel)) rfl
theorem m_28 : (Jvm.Cond.selects "CircuitSimulatorModel" ({ cls := "CircuitSimulatorModel", name := "has", desc := "(II)Z" } : Jvm.MethodName) ({ cls := "CircuitSimulatorModel", name := "has", desc := "(II)Z" } : Jvm.MethodName)) ∈ lG := tb0 (List.mem_of_getElem? (i := 28) (by decide +kernel)) rfl
theorem m_29 : (Jvm.Cond.selects "CircuitSimulatorModel" ({ cls := "CircuitSimulatorModel", name := "levelOf", desc := "(I)I" } : Jvm.MethodName) ({ cls := "CircuitSimulatorModel", name := "levelOf", desc := "(I)I" } : Jvm.MethodName)) ∈ lG := tb0 (List.mem_of_getElem? (i := 29) (by decide +kernel)) rfl
theorem m_30 : (Jvm.Cond.selects "CircuitSimulatorModel" ({ cls := "CircuitSimulatorModel", name := "settle", desc := "()V" } : Jvm.MethodName) ({ cls := "CircuitSimulatorModel", name := "settle", desc := "()V" } : Jvm.MethodName)) ∈ lG := tb0 (List.mem_of_getElem? (i := 30) (by decide +kernel)) rfl
theorem m_31 : (Jvm.Cond.selects "CircuitSimulatorModel" ({ cls := "CircuitSimulatorModel", name := "worked", desc := "(I)I" } : Jvm.MethodName) ({ cls := "CircuitSimulatorModel", name := "worked", desc := "(I)I" } : Jvm.MethodName)) ∈ lG := tb0 (List.mem_of_getElem? (i := 31) (by decide +kernel)) rfl
theorem m_32 : (Jvm.Cond.selects "CircuitSimulatorModel" ({ cls := "CircuitSimulatorModel", name := "read", desc := "(I)I" } : Jvm.MethodName) ({ cls := "CircuitSimulatorModel", name := "read", desc := "(I)I" } : Jvm.MethodName)) ∈ lG := tb0 (List.mem_of_getElem? (i := 32) (by decide +kernel)) rfl
theorem m_33 : (Jvm.Cond.selects "CircuitSimulatorModel" ({ cls := "CircuitSimulatorModel", name := "joined", desc := "(I)I" } : Jvm.MethodName) ({ cls := "CircuitSimulatorModel", name := "joined", desc := "(I)I" } : Jvm.MethodName)) ∈ lG := tb0 (List.mem_of_getElem? (i := 33) (by decide +kernel)) rfl
theorem m_34 : (Jvm.Cond.initialized "CircuitSimulatorLaw") ∈ lG := tb1 (List.mem_of_getElem? (i := 0) (by decide +kernel)) rfl
theorem m_35 : (Jvm.Cond.initialized "CircuitSimulator") ∈ lG := tb1 (List.mem_of_getElem? (i := 1) (by decide +kernel)) rfl
theorem m_36 : (Jvm.Cond.initialized "CircuitSimulator$Cells") ∈ lG := tb1 (List.mem_of_getElem? (i := 2) (by decide +kernel)) rfl
theorem m_37 : (Jvm.Cond.initialized "CircuitSimulator$Nets") ∈ lG := tb1 (List.mem_of_getElem? (i := 3) (by decide +kernel)) rfl
theorem m_38 : (Jvm.Cond.initialized "java/util/Arrays") ∈ lG := tb1 (List.mem_of_getElem? (i := 4) (by decide +kernel)) rfl
theorem m_39 : (Jvm.Cond.initialized "CircuitSimulator$Levels") ∈ lG := tb1 (List.mem_of_getElem? (i := 5) (by decide +kernel)) rfl
theorem m_40 : (Jvm.Cond.initialized "CircuitSimulator$Dependence") ∈ lG := tb1 (List.mem_of_getElem? (i := 6) (by decide +kernel)) rfl
theorem m_41 : (Jvm.Cond.initialized "CircuitSimulator$Placement") ∈ lG := tb1 (List.mem_of_getElem? (i := 7) (by decide +kernel)) rfl
theorem m_42 : (Jvm.Cond.initialized "CircuitSimulatorModel") ∈ lG := tb1 (List.mem_of_getElem? (i := 8) (by decide +kernel)) rfl
theorem m_43 : (Jvm.Cond.initialized "java/lang/Throwable") ∈ lG := tb1 (List.mem_of_getElem? (i := 9) (by decide +kernel)) rfl
theorem m_44 : (Jvm.Cond.initialized "java/lang/Exception") ∈ lG := tb1 (List.mem_of_getElem? (i := 10) (by decide +kernel)) rfl
theorem m_45 : (Jvm.Cond.initialized "java/lang/RuntimeException") ∈ lG := tb1 (List.mem_of_getElem? (i := 11) (by decide +kernel)) rfl
theorem m_46 : (Jvm.Cond.initialized "java/lang/IllegalArgumentException") ∈ lG := tb1 (List.mem_of_getElem? (i := 12) (by decide +kernel)) rfl
theorem m_47 : (Jvm.Cond.initialized "java/lang/UnsupportedOperationException") ∈ lG := tb1 (List.mem_of_getElem? (i := 13) (by decide +kernel)) rfl
theorem m_48 : (Jvm.Cond.initialized "java/lang/IllegalStateException") ∈ lG := tb1 (List.mem_of_getElem? (i := 14) (by decide +kernel)) rfl
theorem m_49 : (Jvm.Cond.initialized "CircuitSimulator$Logic") ∈ lG := tb1 (List.mem_of_getElem? (i := 15) (by decide +kernel)) rfl
theorem m_50 : (Jvm.Cond.initialized "java/util/NoSuchElementException") ∈ lG := tb1 (List.mem_of_getElem? (i := 16) (by decide +kernel)) rfl
theorem m_51 : (Jvm.Cond.classLink "CircuitSimulatorLaw" (8 : Nat) "CircuitSimulator") ∈ lG := tb1 (List.mem_of_getElem? (i := 17) (by decide +kernel)) rfl
theorem m_52 : (Jvm.Cond.instantiable "CircuitSimulator" (9 : Nat)) ∈ lG := tb1 (List.mem_of_getElem? (i := 18) (by decide +kernel)) rfl
theorem m_53 : (Jvm.Cond.methodLink "CircuitSimulatorLaw" (62 : Nat) ({ cls := "CircuitSimulator", name := "<init>", desc := "()V" } : Jvm.MethodName)) ∈ lG := tb1 (List.mem_of_getElem? (i := 19) (by decide +kernel)) rfl
theorem m_54 : (Jvm.Cond.instanceMethod ({ cls := "CircuitSimulator", name := "<init>", desc := "()V" } : Jvm.MethodName)) ∈ lG := tb1 (List.mem_of_getElem? (i := 20) (by decide +kernel)) rfl
theorem m_55 : (Jvm.Cond.code ({ cls := "CircuitSimulator", name := "<init>", desc := "()V" } : Jvm.MethodName) prog_1_method_1_code (1 : Nat) (Option.none : Option Jvm.ClassFile.FieldType)) ∈ lG := tb1 (List.mem_of_getElem? (i := 21) (by decide +kernel)) rfl
theorem m_56 : (Jvm.Cond.methodLink "CircuitSimulator" (1 : Nat) ({ cls := "java/lang/Object", name := "<init>", desc := "()V" } : Jvm.MethodName)) ∈ lG := tb1 (List.mem_of_getElem? (i := 22) (by decide +kernel)) rfl
theorem m_57 : (Jvm.Cond.instanceMethod ({ cls := "java/lang/Object", name := "<init>", desc := "()V" } : Jvm.MethodName)) ∈ lG := tb1 (List.mem_of_getElem? (i := 23) (by decide +kernel)) rfl
theorem m_58 : (Jvm.Cond.code ({ cls := "java/lang/Object", name := "<init>", desc := "()V" } : Jvm.MethodName) object_method_1_code (1 : Nat) (Option.none : Option Jvm.ClassFile.FieldType)) ∈ lG := tb1 (List.mem_of_getElem? (i := 24) (by decide +kernel)) rfl
theorem m_59 : (Jvm.Cond.classLink "CircuitSimulator" (7 : Nat) "CircuitSimulator$Cells") ∈ lG := tb1 (List.mem_of_getElem? (i := 25) (by decide +kernel)) rfl
theorem m_60 : (Jvm.Cond.instantiable "CircuitSimulator$Cells" (7 : Nat)) ∈ lG := tb1 (List.mem_of_getElem? (i := 26) (by decide +kernel)) rfl
theorem m_61 : (Jvm.Cond.methodLink "CircuitSimulator" (11 : Nat) ({ cls := "CircuitSimulator$Cells", name := "<init>", desc := "(I)V" } : Jvm.MethodName)) ∈ lG := tb1 (List.mem_of_getElem? (i := 27) (by decide +kernel)) rfl
theorem m_62 : (Jvm.Cond.instanceMethod ({ cls := "CircuitSimulator$Cells", name := "<init>", desc := "(I)V" } : Jvm.MethodName)) ∈ lG := tb1 (List.mem_of_getElem? (i := 28) (by decide +kernel)) rfl
theorem m_63 : (Jvm.Cond.code ({ cls := "CircuitSimulator$Cells", name := "<init>", desc := "(I)V" } : Jvm.MethodName) prog_2_method_1_code (2 : Nat) (Option.none : Option Jvm.ClassFile.FieldType)) ∈ lG := tb1 (List.mem_of_getElem? (i := 29) (by decide +kernel)) rfl
theorem m_64 : (Jvm.Cond.methodLink "CircuitSimulator$Cells" (3 : Nat) ({ cls := "java/lang/Object", name := "<init>", desc := "()V" } : Jvm.MethodName)) ∈ lG := tb1 (List.mem_of_getElem? (i := 30) (by decide +kernel)) rfl
theorem m_65 : (Jvm.Cond.fieldLink "CircuitSimulator$Cells" (15 : Nat) "CircuitSimulator$Cells" "kind" "[I") ∈ lG := tb1 (List.mem_of_getElem? (i := 31) (by decide +kernel)) rfl
theorem m_66 : (Jvm.Cond.fieldLink "CircuitSimulator$Placement" (43 : Nat) "CircuitSimulator$Cells" "kind" "[I") ∈ lG := tb1 (List.mem_of_getElem? (i := 32) (by decide +kernel)) rfl
theorem m_67 : (Jvm.Cond.fieldLink "CircuitSimulator" (166 : Nat) "CircuitSimulator$Cells" "kind" "[I") ∈ lG := tb1 (List.mem_of_getElem? (i := 33) (by decide +kernel)) rfl
theorem m_68 : (Jvm.Cond.fieldLink "CircuitSimulator$Cells" (19 : Nat) "CircuitSimulator$Cells" "out" "[I") ∈ lG := tb1 (List.mem_of_getElem? (i := 34) (by decide +kernel)) rfl
theorem m_69 : (Jvm.Cond.fieldLink "CircuitSimulator$Placement" (32 : Nat) "CircuitSimulator$Cells" "out" "[I") ∈ lG := tb1 (List.mem_of_getElem? (i := 35) (by decide +kernel)) rfl
theorem m_70 : (Jvm.Cond.fieldLink "CircuitSimulator$Dependence" (46 : Nat) "CircuitSimulator$Cells" "out" "[I") ∈ lG := tb1 (List.mem_of_getElem? (i := 36) (by decide +kernel)) rfl
theorem m_71 : (Jvm.Cond.fieldLink "CircuitSimulator$Levels" (44 : Nat) "CircuitSimulator$Cells" "out" "[I") ∈ lG := tb1 (List.mem_of_getElem? (i := 37) (by decide +kernel)) rfl
theorem m_72 : (Jvm.Cond.fieldLink "CircuitSimulator" (161 : Nat) "CircuitSimulator$Cells" "out" "[I") ∈ lG := tb1 (List.mem_of_getElem? (i := 38) (by decide +kernel)) rfl
theorem m_73 : (Jvm.Cond.fieldLink "CircuitSimulator$Cells" (22 : Nat) "CircuitSimulator$Cells" "a" "[I") ∈ lG := tb1 (List.mem_of_getElem? (i := 39) (by decide +kernel)) rfl
theorem m_74 : (Jvm.Cond.fieldLink "CircuitSimulator" (272 : Nat) "CircuitSimulator$Cells" "a" "[I") ∈ lG := tb1 (List.mem_of_getElem? (i := 40) (by decide +kernel)) rfl
theorem m_75 : (Jvm.Cond.fieldLink "CircuitSimulator$Cells" (25 : Nat) "CircuitSimulator$Cells" "b" "[I") ∈ lG := tb1 (List.mem_of_getElem? (i := 41) (by decide +kernel)) rfl
theorem m_76 : (Jvm.Cond.fieldLink "CircuitSimulator" (169 : Nat) "CircuitSimulator$Cells" "b" "[I") ∈ lG := tb1 (List.mem_of_getElem? (i := 42) (by decide +kernel)) rfl
theorem m_77 : (Jvm.Cond.fieldLink "CircuitSimulator$Cells" (28 : Nat) "CircuitSimulator$Cells" "c" "[I") ∈ lG := tb1 (List.mem_of_getElem? (i := 43) (by decide +kernel)) rfl
theorem m_78 : (Jvm.Cond.fieldLink "CircuitSimulator$Cells" (31 : Nat) "CircuitSimulator$Cells" "held" "[I") ∈ lG := tb1 (List.mem_of_getElem? (i := 44) (by decide +kernel)) rfl
theorem m_79 : (Jvm.Cond.fieldLink "CircuitSimulator" (154 : Nat) "CircuitSimulator$Cells" "held" "[I") ∈ lG := tb1 (List.mem_of_getElem? (i := 45) (by decide +kernel)) rfl
theorem m_80 : (Jvm.Cond.fieldLink "CircuitSimulator$Cells" (9 : Nat) "CircuitSimulator$Cells" "size" "I") ∈ lG := tb1 (List.mem_of_getElem? (i := 46) (by decide +kernel)) rfl
theorem m_81 : (Jvm.Cond.fieldLink "CircuitSimulator$Levels" (39 : Nat) "CircuitSimulator$Cells" "size" "I") ∈ lG := tb1 (List.mem_of_getElem? (i := 47) (by decide +kernel)) rfl
theorem m_82 : (Jvm.Cond.fieldLink "CircuitSimulator" (83 : Nat) "CircuitSimulator$Cells" "size" "I") ∈ lG := tb1 (List.mem_of_getElem? (i := 48) (by decide +kernel)) rfl
theorem m_83 : (Jvm.Cond.fieldLink "CircuitSimulator$Dependence" (36 : Nat) "CircuitSimulator$Cells" "size" "I") ∈ lG := tb1 (List.mem_of_getElem? (i := 49) (by decide +kernel)) rfl
theorem m_84 : (Jvm.Cond.fieldLink "CircuitSimulator$Placement" (27 : Nat) "CircuitSimulator$Cells" "size" "I") ∈ lG := tb1 (List.mem_of_getElem? (i := 50) (by decide +kernel)) rfl
theorem m_85 : (Jvm.Cond.laysFinal "CircuitSimulator$Cells" "CircuitSimulator$Cells" "kind" "[I") ∈ lG := tb1 (List.mem_of_getElem? (i := 51) (by decide +kernel)) rfl
theorem m_86 : (Jvm.Cond.soleField "CircuitSimulator$Cells" "kind") ∈ lG := tb1 (List.mem_of_getElem? (i := 52) (by decide +kernel)) rfl
theorem m_87 : (Jvm.Cond.laysFinal "CircuitSimulator$Cells" "CircuitSimulator$Cells" "out" "[I") ∈ lG := tb1 (List.mem_of_getElem? (i := 53) (by decide +kernel)) rfl
theorem m_88 : (Jvm.Cond.soleField "CircuitSimulator$Cells" "out") ∈ lG := tb1 (List.mem_of_getElem? (i := 54) (by decide +kernel)) rfl
theorem m_89 : (Jvm.Cond.laysFinal "CircuitSimulator$Cells" "CircuitSimulator$Cells" "a" "[I") ∈ lG := tb1 (List.mem_of_getElem? (i := 55) (by decide +kernel)) rfl
theorem m_90 : (Jvm.Cond.soleField "CircuitSimulator$Cells" "a") ∈ lG := tb1 (List.mem_of_getElem? (i := 56) (by decide +kernel)) rfl
theorem m_91 : (Jvm.Cond.laysFinal "CircuitSimulator$Cells" "CircuitSimulator$Cells" "b" "[I") ∈ lG := tb1 (List.mem_of_getElem? (i := 57) (by decide +kernel)) rfl
theorem m_92 : (Jvm.Cond.soleField "CircuitSimulator$Cells" "b") ∈ lG := tb1 (List.mem_of_getElem? (i := 58) (by decide +kernel)) rfl
theorem m_93 : (Jvm.Cond.laysFinal "CircuitSimulator$Cells" "CircuitSimulator$Cells" "c" "[I") ∈ lG := tb1 (List.mem_of_getElem? (i := 59) (by decide +kernel)) rfl
theorem m_94 : (Jvm.Cond.soleField "CircuitSimulator$Cells" "c") ∈ lG := tb1 (List.mem_of_getElem? (i := 60) (by decide +kernel)) rfl
theorem m_95 : (Jvm.Cond.laysFinal "CircuitSimulator$Cells" "CircuitSimulator$Cells" "held" "[I") ∈ lG := tb1 (List.mem_of_getElem? (i := 61) (by decide +kernel)) rfl
theorem m_96 : (Jvm.Cond.soleField "CircuitSimulator$Cells" "held") ∈ lG := tb1 (List.mem_of_getElem? (i := 62) (by decide +kernel)) rfl
theorem m_97 : (Jvm.Cond.lays "CircuitSimulator$Cells" "CircuitSimulator$Cells" "size" "I") ∈ lG := tb1 (List.mem_of_getElem? (i := 63) (by decide +kernel)) rfl
theorem m_98 : (Jvm.Cond.soleField "CircuitSimulator$Cells" "size") ∈ lG := tb1 (List.mem_of_getElem? (i := 64) (by decide +kernel)) rfl
theorem m_99 : (Jvm.Cond.superclass "CircuitSimulator$Cells" "java/lang/Object") ∈ lG := tb1 (List.mem_of_getElem? (i := 65) (by decide +kernel)) rfl
theorem m_100 : (Jvm.Cond.arrayClass Jvm.ClassFile.FieldType.int) ∈ lG := tb1 (List.mem_of_getElem? (i := 66) (by decide +kernel)) rfl
theorem m_101 : (Jvm.Cond.classLink "CircuitSimulator" (24 : Nat) "CircuitSimulator$Nets") ∈ lG := tb1 (List.mem_of_getElem? (i := 67) (by decide +kernel)) rfl
theorem m_102 : (Jvm.Cond.instantiable "CircuitSimulator$Nets" (5 : Nat)) ∈ lG := tb1 (List.mem_of_getElem? (i := 68) (by decide +kernel)) rfl
theorem m_103 : (Jvm.Cond.methodLink "CircuitSimulator" (26 : Nat) ({ cls := "CircuitSimulator$Nets", name := "<init>", desc := "()V" } : Jvm.MethodName)) ∈ lG := tb1 (List.mem_of_getElem? (i := 69) (by decide +kernel)) rfl
theorem m_104 : (Jvm.Cond.instanceMethod ({ cls := "CircuitSimulator$Nets", name := "<init>", desc := "()V" } : Jvm.MethodName)) ∈ lG := tb1 (List.mem_of_getElem? (i := 70) (by decide +kernel)) rfl
theorem m_105 : (Jvm.Cond.code ({ cls := "CircuitSimulator$Nets", name := "<init>", desc := "()V" } : Jvm.MethodName) prog_6_method_1_code (1 : Nat) (Option.none : Option Jvm.ClassFile.FieldType)) ∈ lG := tb1 (List.mem_of_getElem? (i := 71) (by decide +kernel)) rfl
theorem m_106 : (Jvm.Cond.methodLink "CircuitSimulator$Nets" (3 : Nat) ({ cls := "java/lang/Object", name := "<init>", desc := "()V" } : Jvm.MethodName)) ∈ lG := tb1 (List.mem_of_getElem? (i := 72) (by decide +kernel)) rfl
theorem m_107 : (Jvm.Cond.methodLink "CircuitSimulator$Nets" (28 : Nat) ({ cls := "java/util/Arrays", name := "fill", desc := "([II)V" } : Jvm.MethodName)) ∈ lG := tb1 (List.mem_of_getElem? (i := 73) (by decide +kernel)) rfl
theorem m_108 : (Jvm.Cond.static ({ cls := "java/util/Arrays", name := "fill", desc := "([II)V" } : Jvm.MethodName)) ∈ lG := tb1 (List.mem_of_getElem? (i := 74) (by decide +kernel)) rfl
theorem m_109 : (Jvm.Cond.code ({ cls := "java/util/Arrays", name := "fill", desc := "([II)V" } : Jvm.MethodName) prog_17_method_103_code (4 : Nat) (Option.none : Option Jvm.ClassFile.FieldType)) ∈ lG := tb1 (List.mem_of_getElem? (i := 75) (by decide +kernel)) rfl
theorem m_110 : (Jvm.Cond.fieldLink "CircuitSimulator$Nets" (9 : Nat) "CircuitSimulator$Nets" "settled" "[I") ∈ lG := tb1 (List.mem_of_getElem? (i := 76) (by decide +kernel)) rfl
theorem m_111 : (Jvm.Cond.fieldLink "CircuitSimulator" (158 : Nat) "CircuitSimulator$Nets" "settled" "[I") ∈ lG := tb1 (List.mem_of_getElem? (i := 77) (by decide +kernel)) rfl
theorem m_112 : (Jvm.Cond.fieldLink "CircuitSimulator$Nets" (15 : Nat) "CircuitSimulator$Nets" "coming" "[I") ∈ lG := tb1 (List.mem_of_getElem? (i := 78) (by decide +kernel)) rfl
theorem m_113 : (Jvm.Cond.fieldLink "CircuitSimulator" (263 : Nat) "CircuitSimulator$Nets" "coming" "[I") ∈ lG := tb1 (List.mem_of_getElem? (i := 79) (by decide +kernel)) rfl
theorem m_114 : (Jvm.Cond.fieldLink "CircuitSimulator$Nets" (18 : Nat) "CircuitSimulator$Nets" "stuck" "[I") ∈ lG := tb1 (List.mem_of_getElem? (i := 80) (by decide +kernel)) rfl
theorem m_115 : (Jvm.Cond.fieldLink "CircuitSimulator" (180 : Nat) "CircuitSimulator$Nets" "stuck" "[I") ∈ lG := tb1 (List.mem_of_getElem? (i := 81) (by decide +kernel)) rfl
theorem m_116 : (Jvm.Cond.fieldLink "CircuitSimulator$Nets" (21 : Nat) "CircuitSimulator$Nets" "turns" "[I") ∈ lG := tb1 (List.mem_of_getElem? (i := 82) (by decide +kernel)) rfl
theorem m_117 : (Jvm.Cond.fieldLink "CircuitSimulator" (189 : Nat) "CircuitSimulator$Nets" "turns" "[I") ∈ lG := tb1 (List.mem_of_getElem? (i := 83) (by decide +kernel)) rfl
theorem m_118 : (Jvm.Cond.fieldLink "CircuitSimulator$Nets" (24 : Nat) "CircuitSimulator$Nets" "size" "I") ∈ lG := tb1 (List.mem_of_getElem? (i := 84) (by decide +kernel)) rfl
theorem m_119 : (Jvm.Cond.fieldLink "CircuitSimulator" (60 : Nat) "CircuitSimulator$Nets" "size" "I") ∈ lG := tb1 (List.mem_of_getElem? (i := 85) (by decide +kernel)) rfl
theorem m_120 : (Jvm.Cond.laysFinal "CircuitSimulator$Nets" "CircuitSimulator$Nets" "settled" "[I") ∈ lG := tb1 (List.mem_of_getElem? (i := 86) (by decide +kernel)) rfl
theorem m_121 : (Jvm.Cond.soleField "CircuitSimulator$Nets" "settled") ∈ lG := tb1 (List.mem_of_getElem? (i := 87) (by decide +kernel)) rfl
theorem m_122 : (Jvm.Cond.laysFinal "CircuitSimulator$Nets" "CircuitSimulator$Nets" "coming" "[I") ∈ lG := tb1 (List.mem_of_getElem? (i := 88) (by decide +kernel)) rfl
theorem m_123 : (Jvm.Cond.soleField "CircuitSimulator$Nets" "coming") ∈ lG := tb1 (List.mem_of_getElem? (i := 89) (by decide +kernel)) rfl
theorem m_124 : (Jvm.Cond.laysFinal "CircuitSimulator$Nets" "CircuitSimulator$Nets" "stuck" "[I") ∈ lG := tb1 (List.mem_of_getElem? (i := 90) (by decide +kernel)) rfl
theorem m_125 : (Jvm.Cond.soleField "CircuitSimulator$Nets" "stuck") ∈ lG := tb1 (List.mem_of_getElem? (i := 91) (by decide +kernel)) rfl
theorem m_126 : (Jvm.Cond.laysFinal "CircuitSimulator$Nets" "CircuitSimulator$Nets" "turns" "[I") ∈ lG := tb1 (List.mem_of_getElem? (i := 92) (by decide +kernel)) rfl
theorem m_127 : (Jvm.Cond.soleField "CircuitSimulator$Nets" "turns") ∈ lG := tb1 (List.mem_of_getElem? (i := 93) (by decide +kernel)) rfl
theorem m_128 : (Jvm.Cond.lays "CircuitSimulator$Nets" "CircuitSimulator$Nets" "size" "I") ∈ lG := tb1 (List.mem_of_getElem? (i := 94) (by decide +kernel)) rfl
theorem m_129 : (Jvm.Cond.soleField "CircuitSimulator$Nets" "size") ∈ lG := tb1 (List.mem_of_getElem? (i := 95) (by decide +kernel)) rfl
theorem m_130 : (Jvm.Cond.superclass "CircuitSimulator$Nets" "java/lang/Object") ∈ lG := tb1 (List.mem_of_getElem? (i := 96) (by decide +kernel)) rfl
theorem m_131 : (Jvm.Cond.classLink "CircuitSimulator" (31 : Nat) "CircuitSimulator$Levels") ∈ lG := tb1 (List.mem_of_getElem? (i := 97) (by decide +kernel)) rfl
theorem m_132 : (Jvm.Cond.instantiable "CircuitSimulator$Levels" (6 : Nat)) ∈ lG := tb1 (List.mem_of_getElem? (i := 98) (by decide +kernel)) rfl
theorem m_133 : (Jvm.Cond.instanceMethod ({ cls := "CircuitSimulator$Levels", name := "<init>", desc := "()V" } : Jvm.MethodName)) ∈ lG := tb1 (List.mem_of_getElem? (i := 100) (by decide +kernel)) rfl
theorem m_134 : (Jvm.Cond.code ({ cls := "CircuitSimulator$Levels", name := "<init>", desc := "()V" } : Jvm.MethodName) prog_4_method_1_code (1 : Nat) (Option.none : Option Jvm.ClassFile.FieldType)) ∈ lG := tb1 (List.mem_of_getElem? (i := 101) (by decide +kernel)) rfl
theorem m_135 : (Jvm.Cond.methodLink "CircuitSimulator$Levels" (3 : Nat) ({ cls := "java/lang/Object", name := "<init>", desc := "()V" } : Jvm.MethodName)) ∈ lG := tb1 (List.mem_of_getElem? (i := 102) (by decide +kernel)) rfl
theorem m_136 : (Jvm.Cond.fieldLink "CircuitSimulator$Levels" (9 : Nat) "CircuitSimulator$Levels" "ofNet" "[I") ∈ lG := tb1 (List.mem_of_getElem? (i := 103) (by decide +kernel)) rfl
theorem m_137 : (Jvm.Cond.fieldLink "CircuitSimulator" (186 : Nat) "CircuitSimulator$Levels" "ofNet" "[I") ∈ lG := tb1 (List.mem_of_getElem? (i := 104) (by decide +kernel)) rfl
theorem m_138 : (Jvm.Cond.fieldLink "CircuitSimulator$Levels" (15 : Nat) "CircuitSimulator$Levels" "order" "[I") ∈ lG := tb1 (List.mem_of_getElem? (i := 105) (by decide +kernel)) rfl
theorem m_139 : (Jvm.Cond.fieldLink "CircuitSimulator" (219 : Nat) "CircuitSimulator$Levels" "order" "[I") ∈ lG := tb1 (List.mem_of_getElem? (i := 106) (by decide +kernel)) rfl
theorem m_140 : (Jvm.Cond.fieldLink "CircuitSimulator$Levels" (18 : Nat) "CircuitSimulator$Levels" "greatest" "I") ∈ lG := tb1 (List.mem_of_getElem? (i := 107) (by decide +kernel)) rfl
theorem m_141 : (Jvm.Cond.fieldLink "CircuitSimulator" (124 : Nat) "CircuitSimulator$Levels" "greatest" "I") ∈ lG := tb1 (List.mem_of_getElem? (i := 108) (by decide +kernel)) rfl
theorem m_142 : (Jvm.Cond.fieldLink "CircuitSimulator$Levels" (22 : Nat) "CircuitSimulator$Levels" "waitingDrivers" "[I") ∈ lG := tb1 (List.mem_of_getElem? (i := 109) (by decide +kernel)) rfl
theorem m_143 : (Jvm.Cond.fieldLink "CircuitSimulator$Levels" (25 : Nat) "CircuitSimulator$Levels" "ordered" "[Z") ∈ lG := tb1 (List.mem_of_getElem? (i := 110) (by decide +kernel)) rfl
theorem m_144 : (Jvm.Cond.fieldLink "CircuitSimulator$Levels" (29 : Nat) "CircuitSimulator$Levels" "orderedCells" "I") ∈ lG := tb1 (List.mem_of_getElem? (i := 111) (by decide +kernel)) rfl
theorem m_145 : (Jvm.Cond.laysFinal "CircuitSimulator$Levels" "CircuitSimulator$Levels" "ofNet" "[I") ∈ lG := tb1 (List.mem_of_getElem? (i := 112) (by decide +kernel)) rfl
theorem m_146 : (Jvm.Cond.soleField "CircuitSimulator$Levels" "ofNet") ∈ lG := tb1 (List.mem_of_getElem? (i := 113) (by decide +kernel)) rfl
theorem m_147 : (Jvm.Cond.laysFinal "CircuitSimulator$Levels" "CircuitSimulator$Levels" "order" "[I") ∈ lG := tb1 (List.mem_of_getElem? (i := 114) (by decide +kernel)) rfl
theorem m_148 : (Jvm.Cond.soleField "CircuitSimulator$Levels" "order") ∈ lG := tb1 (List.mem_of_getElem? (i := 115) (by decide +kernel)) rfl
theorem m_149 : (Jvm.Cond.lays "CircuitSimulator$Levels" "CircuitSimulator$Levels" "greatest" "I") ∈ lG := tb1 (List.mem_of_getElem? (i := 116) (by decide +kernel)) rfl
theorem m_150 : (Jvm.Cond.soleField "CircuitSimulator$Levels" "greatest") ∈ lG := tb1 (List.mem_of_getElem? (i := 117) (by decide +kernel)) rfl
theorem m_151 : (Jvm.Cond.laysFinal "CircuitSimulator$Levels" "CircuitSimulator$Levels" "waitingDrivers" "[I") ∈ lG := tb1 (List.mem_of_getElem? (i := 118) (by decide +kernel)) rfl
theorem m_152 : (Jvm.Cond.soleField "CircuitSimulator$Levels" "waitingDrivers") ∈ lG := tb1 (List.mem_of_getElem? (i := 119) (by decide +kernel)) rfl
theorem m_153 : (Jvm.Cond.laysFinal "CircuitSimulator$Levels" "CircuitSimulator$Levels" "ordered" "[Z") ∈ lG := tb1 (List.mem_of_getElem? (i := 120) (by decide +kernel)) rfl
theorem m_154 : (Jvm.Cond.soleField "CircuitSimulator$Levels" "ordered") ∈ lG := tb1 (List.mem_of_getElem? (i := 121) (by decide +kernel)) rfl
theorem m_155 : (Jvm.Cond.lays "CircuitSimulator$Levels" "CircuitSimulator$Levels" "orderedCells" "I") ∈ lG := tb1 (List.mem_of_getElem? (i := 122) (by decide +kernel)) rfl
theorem m_156 : (Jvm.Cond.soleField "CircuitSimulator$Levels" "orderedCells") ∈ lG := tb1 (List.mem_of_getElem? (i := 123) (by decide +kernel)) rfl
theorem m_157 : (Jvm.Cond.superclass "CircuitSimulator$Levels" "java/lang/Object") ∈ lG := tb1 (List.mem_of_getElem? (i := 124) (by decide +kernel)) rfl
theorem m_158 : (Jvm.Cond.arrayClass Jvm.ClassFile.FieldType.boolean) ∈ lG := tb1 (List.mem_of_getElem? (i := 125) (by decide +kernel)) rfl
theorem m_159 : (Jvm.Cond.classLink "CircuitSimulator" (38 : Nat) "CircuitSimulator$Dependence") ∈ lG := tb1 (List.mem_of_getElem? (i := 126) (by decide +kernel)) rfl
theorem m_160 : (Jvm.Cond.instantiable "CircuitSimulator$Dependence" (2 : Nat)) ∈ lG := tb1 (List.mem_of_getElem? (i := 127) (by decide +kernel)) rfl
theorem m_161 : (Jvm.Cond.instanceMethod ({ cls := "CircuitSimulator$Dependence", name := "<init>", desc := "()V" } : Jvm.MethodName)) ∈ lG := tb1 (List.mem_of_getElem? (i := 129) (by decide +kernel)) rfl
theorem m_162 : (Jvm.Cond.code ({ cls := "CircuitSimulator$Dependence", name := "<init>", desc := "()V" } : Jvm.MethodName) prog_3_method_1_code (1 : Nat) (Option.none : Option Jvm.ClassFile.FieldType)) ∈ lG := tb1 (List.mem_of_getElem? (i := 130) (by decide +kernel)) rfl
theorem m_163 : (Jvm.Cond.methodLink "CircuitSimulator$Dependence" (3 : Nat) ({ cls := "java/lang/Object", name := "<init>", desc := "()V" } : Jvm.MethodName)) ∈ lG := tb1 (List.mem_of_getElem? (i := 131) (by decide +kernel)) rfl
theorem m_164 : (Jvm.Cond.fieldLink "CircuitSimulator$Dependence" (9 : Nat) "CircuitSimulator$Dependence" "onFirst" "[J") ∈ lG := tb1 (List.mem_of_getElem? (i := 132) (by decide +kernel)) rfl
theorem m_165 : (Jvm.Cond.fieldLink "CircuitSimulator$Dependence" (15 : Nat) "CircuitSimulator$Dependence" "onLater" "[J") ∈ lG := tb1 (List.mem_of_getElem? (i := 133) (by decide +kernel)) rfl
theorem m_166 : (Jvm.Cond.laysFinal "CircuitSimulator$Dependence" "CircuitSimulator$Dependence" "onFirst" "[J") ∈ lG := tb1 (List.mem_of_getElem? (i := 134) (by decide +kernel)) rfl
theorem m_167 : (Jvm.Cond.soleField "CircuitSimulator$Dependence" "onFirst") ∈ lG := tb1 (List.mem_of_getElem? (i := 135) (by decide +kernel)) rfl
theorem m_168 : (Jvm.Cond.laysFinal "CircuitSimulator$Dependence" "CircuitSimulator$Dependence" "onLater" "[J") ∈ lG := tb1 (List.mem_of_getElem? (i := 136) (by decide +kernel)) rfl
theorem m_169 : (Jvm.Cond.soleField "CircuitSimulator$Dependence" "onLater") ∈ lG := tb1 (List.mem_of_getElem? (i := 137) (by decide +kernel)) rfl
theorem m_170 : (Jvm.Cond.superclass "CircuitSimulator$Dependence" "java/lang/Object") ∈ lG := tb1 (List.mem_of_getElem? (i := 138) (by decide +kernel)) rfl
theorem m_171 : (Jvm.Cond.arrayClass Jvm.ClassFile.FieldType.long) ∈ lG := tb1 (List.mem_of_getElem? (i := 139) (by decide +kernel)) rfl
theorem m_172 : (Jvm.Cond.classLink "CircuitSimulator" (45 : Nat) "CircuitSimulator$Placement") ∈ lG := tb1 (List.mem_of_getElem? (i := 140) (by decide +kernel)) rfl
theorem m_173 : (Jvm.Cond.instantiable "CircuitSimulator$Placement" (3 : Nat)) ∈ lG := tb1 (List.mem_of_getElem? (i := 141) (by decide +kernel)) rfl
theorem m_174 : (Jvm.Cond.instanceMethod ({ cls := "CircuitSimulator$Placement", name := "<init>", desc := "()V" } : Jvm.MethodName)) ∈ lG := tb1 (List.mem_of_getElem? (i := 143) (by decide +kernel)) rfl
theorem m_175 : (Jvm.Cond.code ({ cls := "CircuitSimulator$Placement", name := "<init>", desc := "()V" } : Jvm.MethodName) prog_7_method_1_code (1 : Nat) (Option.none : Option Jvm.ClassFile.FieldType)) ∈ lG := tb1 (List.mem_of_getElem? (i := 144) (by decide +kernel)) rfl
theorem m_176 : (Jvm.Cond.methodLink "CircuitSimulator$Placement" (3 : Nat) ({ cls := "java/lang/Object", name := "<init>", desc := "()V" } : Jvm.MethodName)) ∈ lG := tb1 (List.mem_of_getElem? (i := 145) (by decide +kernel)) rfl
theorem m_177 : (Jvm.Cond.fieldLink "CircuitSimulator$Placement" (9 : Nat) "CircuitSimulator$Placement" "netOf" "[I") ∈ lG := tb1 (List.mem_of_getElem? (i := 146) (by decide +kernel)) rfl
theorem m_178 : (Jvm.Cond.fieldLink "CircuitSimulator$Placement" (15 : Nat) "CircuitSimulator$Placement" "named" "[Z") ∈ lG := tb1 (List.mem_of_getElem? (i := 147) (by decide +kernel)) rfl
theorem m_179 : (Jvm.Cond.fieldLink "CircuitSimulator$Placement" (19 : Nat) "CircuitSimulator$Placement" "netsThen" "I") ∈ lG := tb1 (List.mem_of_getElem? (i := 148) (by decide +kernel)) rfl
theorem m_180 : (Jvm.Cond.fieldLink "CircuitSimulator" (115 : Nat) "CircuitSimulator$Placement" "netsThen" "I") ∈ lG := tb1 (List.mem_of_getElem? (i := 149) (by decide +kernel)) rfl
theorem m_181 : (Jvm.Cond.laysFinal "CircuitSimulator$Placement" "CircuitSimulator$Placement" "netOf" "[I") ∈ lG := tb1 (List.mem_of_getElem? (i := 150) (by decide +kernel)) rfl
theorem m_182 : (Jvm.Cond.soleField "CircuitSimulator$Placement" "netOf") ∈ lG := tb1 (List.mem_of_getElem? (i := 151) (by decide +kernel)) rfl
theorem m_183 : (Jvm.Cond.laysFinal "CircuitSimulator$Placement" "CircuitSimulator$Placement" "named" "[Z") ∈ lG := tb1 (List.mem_of_getElem? (i := 152) (by decide +kernel)) rfl
theorem m_184 : (Jvm.Cond.soleField "CircuitSimulator$Placement" "named") ∈ lG := tb1 (List.mem_of_getElem? (i := 153) (by decide +kernel)) rfl
theorem m_185 : (Jvm.Cond.lays "CircuitSimulator$Placement" "CircuitSimulator$Placement" "netsThen" "I") ∈ lG := tb1 (List.mem_of_getElem? (i := 154) (by decide +kernel)) rfl
theorem m_186 : (Jvm.Cond.soleField "CircuitSimulator$Placement" "netsThen") ∈ lG := tb1 (List.mem_of_getElem? (i := 155) (by decide +kernel)) rfl
theorem m_187 : (Jvm.Cond.superclass "CircuitSimulator$Placement" "java/lang/Object") ∈ lG := tb1 (List.mem_of_getElem? (i := 156) (by decide +kernel)) rfl
theorem m_188 : (Jvm.Cond.fieldLink "CircuitSimulator" (14 : Nat) "CircuitSimulator" "cells" "LCircuitSimulator$Cells;") ∈ lG := tb1 (List.mem_of_getElem? (i := 157) (by decide +kernel)) rfl
theorem m_189 : (Jvm.Cond.fieldLink "CircuitSimulator" (18 : Nat) "CircuitSimulator" "firstTemplate" "LCircuitSimulator$Cells;") ∈ lG := tb1 (List.mem_of_getElem? (i := 158) (by decide +kernel)) rfl
theorem m_190 : (Jvm.Cond.fieldLink "CircuitSimulator" (21 : Nat) "CircuitSimulator" "secondTemplate" "LCircuitSimulator$Cells;") ∈ lG := tb1 (List.mem_of_getElem? (i := 159) (by decide +kernel)) rfl
theorem m_191 : (Jvm.Cond.fieldLink "CircuitSimulator" (27 : Nat) "CircuitSimulator" "nets" "LCircuitSimulator$Nets;") ∈ lG := tb1 (List.mem_of_getElem? (i := 160) (by decide +kernel)) rfl
theorem m_192 : (Jvm.Cond.fieldLink "CircuitSimulator" (34 : Nat) "CircuitSimulator" "levels" "LCircuitSimulator$Levels;") ∈ lG := tb1 (List.mem_of_getElem? (i := 161) (by decide +kernel)) rfl
theorem m_193 : (Jvm.Cond.fieldLink "CircuitSimulator" (41 : Nat) "CircuitSimulator" "dependence" "LCircuitSimulator$Dependence;") ∈ lG := tb1 (List.mem_of_getElem? (i := 162) (by decide +kernel)) rfl
theorem m_194 : (Jvm.Cond.fieldLink "CircuitSimulator" (48 : Nat) "CircuitSimulator" "placement" "LCircuitSimulator$Placement;") ∈ lG := tb1 (List.mem_of_getElem? (i := 163) (by decide +kernel)) rfl
theorem m_195 : (Jvm.Cond.fieldLink "CircuitSimulator" (52 : Nat) "CircuitSimulator" "built" "Z") ∈ lG := tb1 (List.mem_of_getElem? (i := 164) (by decide +kernel)) rfl
theorem m_196 : (Jvm.Cond.fieldLink "CircuitSimulator" (56 : Nat) "CircuitSimulator" "settlings" "I") ∈ lG := tb1 (List.mem_of_getElem? (i := 165) (by decide +kernel)) rfl
theorem m_197 : (Jvm.Cond.laysFinal "CircuitSimulator" "CircuitSimulator" "cells" "LCircuitSimulator$Cells;") ∈ lG := tb1 (List.mem_of_getElem? (i := 166) (by decide +kernel)) rfl
theorem m_198 : (Jvm.Cond.soleField "CircuitSimulator" "cells") ∈ lG := tb1 (List.mem_of_getElem? (i := 167) (by decide +kernel)) rfl
theorem m_199 : (Jvm.Cond.laysFinal "CircuitSimulator" "CircuitSimulator" "firstTemplate" "LCircuitSimulator$Cells;") ∈ lG := tb1 (List.mem_of_getElem? (i := 168) (by decide +kernel)) rfl
