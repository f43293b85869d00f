theorem lk_java_util_AbstractList_1 : (Jvm.Cond.methodLink "java/util/AbstractList" (1 : Nat) ({ cls := "java/util/AbstractCollection", name := "<init>", desc := "()V" } : Jvm.MethodName)) ∈ TB := tq1 121 rfl rfl
theorem lk_java_util_AbstractCollection_1 : (Jvm.Cond.methodLink "java/util/AbstractCollection" (1 : Nat) ({ cls := "java/lang/Object", name := "<init>", desc := "()V" } : Jvm.MethodName)) ∈ TB := tq1 124 rfl rfl
theorem lk_java_util_AbstractList_7 : (Jvm.Cond.fieldLink "java/util/AbstractList" (7 : Nat) "java/util/AbstractList" "modCount" "I") ∈ TB := tq1 129 rfl rfl
theorem lk_java_util_Objects_105 : (Jvm.Cond.methodLink "java/util/Objects" (105 : Nat) ({ cls := "jdk/internal/util/Preconditions", name := "checkIndex", desc := "(IILjava/util/function/BiFunction;)I" } : Jvm.MethodName)) ∈ TB := tq2 236 rfl rfl
theorem lk_jdk_internal_util_ArraysSupport_194 : (Jvm.Cond.methodLink "jdk/internal/util/ArraysSupport" (194 : Nat) ({ cls := "java/lang/Math", name := "max", desc := "(II)I" } : Jvm.MethodName)) ∈ TB := tq3 137 rfl rfl
theorem lk_jdk_internal_util_ArraysSupport_200 : (Jvm.Cond.constant "jdk/internal/util/ArraysSupport" (200 : Nat) (2147483639 : Int32)) ∈ TB := tq3 140 rfl rfl
theorem lk_jdk_internal_util_ArraysSupport_201 : (Jvm.Cond.methodLink "jdk/internal/util/ArraysSupport" (201 : Nat) ({ cls := "jdk/internal/util/ArraysSupport", name := "hugeLength", desc := "(II)I" } : Jvm.MethodName)) ∈ TB := tq3 141 rfl rfl
theorem kw_sameField : (Jvm.Cond.sameField "java/util/ArrayList" "java/util/AbstractList" "modCount" "I") ∈ TB := tq1 131 rfl rfl
theorem kw_insGC : (Jvm.Cond.instanceMethod ({ cls := "java/lang/Object", name := "getClass", desc := "()Ljava/lang/Class;" } : Jvm.MethodName)) ∈ TB := tq5 159 rfl rfl
theorem kw_natGC : (Jvm.Cond.native ({ cls := "java/lang/Object", name := "getClass", desc := "()Ljava/lang/Class;" } : Jvm.MethodName)) ∈ TB := tq5 181 rfl rfl
theorem kw_selGC : (Jvm.Cond.selects "[Ljava/lang/Object;" ({ cls := "java/lang/Object", name := "getClass", desc := "()Ljava/lang/Class;" } : Jvm.MethodName) ({ cls := "java/lang/Object", name := "getClass", desc := "()Ljava/lang/Class;" } : Jvm.MethodName)) ∈ TB := tq12 211 rfl rfl
abbrev m_java_util_Objects_checkIndex : MD := (⟨"java/util/Objects", "checkIndex", "(II)I"⟩, prog_45_method_17_code, 2, some (Jvm.ClassFile.FieldType.int), [])
theorem mo_java_util_Objects_checkIndex : MOK m_java_util_Objects_checkIndex := ⟨tq2 235 rfl rfl, rfl, kw_initialized_java_util_Objects, by decide, by decide⟩
theorem ms_java_util_Objects_checkIndex : MS m_java_util_Objects_checkIndex 2 := ⟨mo_java_util_Objects_checkIndex, by decide +kernel, tq2 234 rfl rfl⟩
theorem d_java_util_Objects_checkIndex_0 : decode prog_45_method_17_code 0 = .ok (.iload_n 0, 1) := by decide +kernel
theorem d_java_util_Objects_checkIndex_1 : decode prog_45_method_17_code 1 = .ok (.iload_n 1, 1) := by decide +kernel
theorem d_java_util_Objects_checkIndex_2 : decode prog_45_method_17_code 2 = .ok (.aconst_null, 1) := by decide +kernel
theorem d_java_util_Objects_checkIndex_3 : decode prog_45_method_17_code 3 = .ok (.invokestatic 105, 3) := by decide +kernel
theorem d_java_util_Objects_checkIndex_6 : decode prog_45_method_17_code 6 = .ok (.ireturn, 1) := by decide +kernel
abbrev m_jdk_internal_util_Preconditions_checkIndex : MD := (⟨"jdk/internal/util/Preconditions", "checkIndex", "(IILjava/util/function/BiFunction;)I"⟩, prog_49_method_11_code, 3, some (Jvm.ClassFile.FieldType.int), [])
theorem mo_jdk_internal_util_Preconditions_checkIndex : MOK m_jdk_internal_util_Preconditions_checkIndex := ⟨tq2 238 rfl rfl, rfl, kw_initialized_jdk_internal_util_Preconditions, by decide, by decide⟩
theorem ms_jdk_internal_util_Preconditions_checkIndex : MS m_jdk_internal_util_Preconditions_checkIndex 3 := ⟨mo_jdk_internal_util_Preconditions_checkIndex, by decide +kernel, tq2 237 rfl rfl⟩
theorem d_jdk_internal_util_Preconditions_checkIndex_0 : decode prog_49_method_11_code 0 = .ok (.iload_n 0, 1) := by decide +kernel
theorem d_jdk_internal_util_Preconditions_checkIndex_1 : decode prog_49_method_11_code 1 = .ok (.ifCond .lt 8, 3) := by decide +kernel
theorem d_jdk_internal_util_Preconditions_checkIndex_4 : decode prog_49_method_11_code 4 = .ok (.iload_n 0, 1) := by decide +kernel
theorem d_jdk_internal_util_Preconditions_checkIndex_5 : decode prog_49_method_11_code 5 = .ok (.iload_n 1, 1) := by decide +kernel
theorem d_jdk_internal_util_Preconditions_checkIndex_6 : decode prog_49_method_11_code 6 = .ok (.if_icmp .lt 10, 3) := by decide +kernel
theorem d_jdk_internal_util_Preconditions_checkIndex_9 : decode prog_49_method_11_code 9 = .ok (.aload_n 2, 1) := by decide +kernel
theorem d_jdk_internal_util_Preconditions_checkIndex_10 : decode prog_49_method_11_code 10 = .ok (.iload_n 0, 1) := by decide +kernel
theorem d_jdk_internal_util_Preconditions_checkIndex_11 : decode prog_49_method_11_code 11 = .ok (.iload_n 1, 1) := by decide +kernel
theorem d_jdk_internal_util_Preconditions_checkIndex_12 : decode prog_49_method_11_code 12 = .ok (.invokestatic 95, 3) := by decide +kernel
theorem d_jdk_internal_util_Preconditions_checkIndex_15 : decode prog_49_method_11_code 15 = .ok (.athrow, 1) := by decide +kernel
theorem d_jdk_internal_util_Preconditions_checkIndex_16 : decode prog_49_method_11_code 16 = .ok (.iload_n 0, 1) := by decide +kernel
theorem d_jdk_internal_util_Preconditions_checkIndex_17 : decode prog_49_method_11_code 17 = .ok (.ireturn, 1) := by decide +kernel
abbrev m_jdk_internal_util_ArraysSupport_newLength : MD := (⟨"jdk/internal/util/ArraysSupport", "newLength", "(III)I"⟩, prog_48_method_27_code, 4, some (Jvm.ClassFile.FieldType.int), [])
theorem mo_jdk_internal_util_ArraysSupport_newLength : MOK m_jdk_internal_util_ArraysSupport_newLength := ⟨tq3 136 rfl rfl, rfl, kw_initialized_jdk_internal_util_ArraysSupport, by decide, by decide⟩
theorem ms_jdk_internal_util_ArraysSupport_newLength : MS m_jdk_internal_util_ArraysSupport_newLength 3 := ⟨mo_jdk_internal_util_ArraysSupport_newLength, by decide +kernel, tq3 135 rfl rfl⟩
theorem d_jdk_internal_util_ArraysSupport_newLength_0 : decode prog_48_method_27_code 0 = .ok (.iload_n 0, 1) := by decide +kernel
theorem d_jdk_internal_util_ArraysSupport_newLength_1 : decode prog_48_method_27_code 1 = .ok (.iload_n 1, 1) := by decide +kernel
theorem d_jdk_internal_util_ArraysSupport_newLength_2 : decode prog_48_method_27_code 2 = .ok (.iload_n 2, 1) := by decide +kernel
theorem d_jdk_internal_util_ArraysSupport_newLength_3 : decode prog_48_method_27_code 3 = .ok (.invokestatic 194, 3) := by decide +kernel
theorem d_jdk_internal_util_ArraysSupport_newLength_6 : decode prog_48_method_27_code 6 = .ok (.iadd, 1) := by decide +kernel
theorem d_jdk_internal_util_ArraysSupport_newLength_7 : decode prog_48_method_27_code 7 = .ok (.istore_n 3, 1) := by decide +kernel
theorem d_jdk_internal_util_ArraysSupport_newLength_8 : decode prog_48_method_27_code 8 = .ok (.iconst 0, 1) := by decide +kernel
theorem d_jdk_internal_util_ArraysSupport_newLength_9 : decode prog_48_method_27_code 9 = .ok (.iload_n 3, 1) := by decide +kernel
theorem d_jdk_internal_util_ArraysSupport_newLength_10 : decode prog_48_method_27_code 10 = .ok (.if_icmp .ge 11, 3) := by decide +kernel
theorem d_jdk_internal_util_ArraysSupport_newLength_13 : decode prog_48_method_27_code 13 = .ok (.iload_n 3, 1) := by decide +kernel
theorem d_jdk_internal_util_ArraysSupport_newLength_14 : decode prog_48_method_27_code 14 = .ok (.ldc 200, 2) := by decide +kernel
theorem d_jdk_internal_util_ArraysSupport_newLength_16 : decode prog_48_method_27_code 16 = .ok (.if_icmp .gt 5, 3) := by decide +kernel
theorem d_jdk_internal_util_ArraysSupport_newLength_19 : decode prog_48_method_27_code 19 = .ok (.iload_n 3, 1) := by decide +kernel
theorem d_jdk_internal_util_ArraysSupport_newLength_20 : decode prog_48_method_27_code 20 = .ok (.ireturn, 1) := by decide +kernel
theorem d_jdk_internal_util_ArraysSupport_newLength_21 : decode prog_48_method_27_code 21 = .ok (.iload_n 0, 1) := by decide +kernel
theorem d_jdk_internal_util_ArraysSupport_newLength_22 : decode prog_48_method_27_code 22 = .ok (.iload_n 1, 1) := by decide +kernel
theorem d_jdk_internal_util_ArraysSupport_newLength_23 : decode prog_48_method_27_code 23 = .ok (.invokestatic 201, 3) := by decide +kernel
theorem d_jdk_internal_util_ArraysSupport_newLength_26 : decode prog_48_method_27_code 26 = .ok (.ireturn, 1) := by decide +kernel
abbrev m_java_util_AbstractList_init : MD := (⟨"java/util/AbstractList", "<init>", "()V"⟩, prog_40_method_1_code, 1, none, [])
theorem mo_java_util_AbstractList_init : MOK m_java_util_AbstractList_init := ⟨tq1 120 rfl rfl, rfl, kw_initialized_java_util_AbstractList, by decide, by decide⟩
theorem mi_java_util_AbstractList_init : MI m_java_util_AbstractList_init 0 := ⟨mo_java_util_AbstractList_init, by decide +kernel, tq1 119 rfl rfl, rfl, rfl⟩
theorem d_java_util_AbstractList_init_0 : decode prog_40_method_1_code 0 = .ok (.aload_n 0, 1) := by decide +kernel
theorem d_java_util_AbstractList_init_1 : decode prog_40_method_1_code 1 = .ok (.invokespecial 1, 3) := by decide +kernel
theorem d_java_util_AbstractList_init_4 : decode prog_40_method_1_code 4 = .ok (.aload_n 0, 1) := by decide +kernel
theorem d_java_util_AbstractList_init_5 : decode prog_40_method_1_code 5 = .ok (.iconst 0, 1) := by decide +kernel
theorem d_java_util_AbstractList_init_6 : decode prog_40_method_1_code 6 = .ok (.putfield 7, 3) := by decide +kernel
theorem d_java_util_AbstractList_init_9 : decode prog_40_method_1_code 9 = .ok (.return_, 1) := by decide +kernel
abbrev m_java_util_AbstractCollection_init : MD := (⟨"java/util/AbstractCollection", "<init>", "()V"⟩, prog_39_method_1_code, 1, none, [])
theorem mo_java_util_AbstractCollection_init : MOK m_java_util_AbstractCollection_init := ⟨tq1 123 rfl rfl, rfl, kw_initialized_java_util_AbstractCollection, by decide, by decide⟩
theorem mi_java_util_AbstractCollection_init : MI m_java_util_AbstractCollection_init 0 := ⟨mo_java_util_AbstractCollection_init, by decide +kernel, tq1 122 rfl rfl, rfl, rfl⟩
theorem d_java_util_AbstractCollection_init_0 : decode prog_39_method_1_code 0 = .ok (.aload_n 0, 1) := by decide +kernel
theorem d_java_util_AbstractCollection_init_1 : decode prog_39_method_1_code 1 = .ok (.invokespecial 1, 3) := by decide +kernel
theorem d_java_util_AbstractCollection_init_4 : decode prog_39_method_1_code 4 = .ok (.return_, 1) := by decide +kernel
