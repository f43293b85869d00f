theorem tq1 {w : Cond} (i : Nat) (h : tables_1_1[i]? = some w) (hg : goodWord w = true) : w ∈ TB := List.mem_filter.mpr ⟨List.mem_append_right _ (List.mem_append_left _ (List.mem_of_getElem? h)), hg⟩
theorem tq2 {w : Cond} (i : Nat) (h : tables_1_2[i]? = some w) (hg : goodWord w = true) : w ∈ TB := List.mem_filter.mpr ⟨List.mem_append_right _ (List.mem_append_right _ (List.mem_append_left _ (List.mem_of_getElem? h))), hg⟩
theorem tq3 {w : Cond} (i : Nat) (h : tables_1_3[i]? = some w) (hg : goodWord w = true) : w ∈ TB := List.mem_filter.mpr ⟨List.mem_append_right _ (List.mem_append_right _ (List.mem_append_right _ (List.mem_append_left _ (List.mem_of_getElem? h)))), hg⟩
theorem tq4 {w : Cond} (i : Nat) (h : tables_1_4[i]? = some w) (hg : goodWord w = true) : w ∈ TB := List.mem_filter.mpr ⟨List.mem_append_right _ (List.mem_append_right _ (List.mem_append_right _ (List.mem_append_right _ (List.mem_append_left _ (List.mem_of_getElem? h))))), hg⟩
theorem tq5 {w : Cond} (i : Nat) (h : tables_1_5[i]? = some w) (hg : goodWord w = true) : w ∈ TB := List.mem_filter.mpr ⟨List.mem_append_right _ (List.mem_append_right _ (List.mem_append_right _ (List.mem_append_right _ (List.mem_append_right _ (List.mem_append_left _ (List.mem_of_getElem? h)))))), hg⟩
theorem tq6 {w : Cond} (i : Nat) (h : tables_1_6[i]? = some w) (hg : goodWord w = true) : w ∈ TB := List.mem_filter.mpr ⟨List.mem_append_right _ (List.mem_append_right _ (List.mem_append_right _ (List.mem_append_right _ (List.mem_append_right _ (List.mem_append_right _ (List.mem_append_left _ (List.mem_of_getElem? h))))))), hg⟩
theorem tq7 {w : Cond} (i : Nat) (h : tables_1_7[i]? = some w) (hg : goodWord w = true) : w ∈ TB := List.mem_filter.mpr ⟨List.mem_append_right _ (List.mem_append_right _ (List.mem_append_right _ (List.mem_append_right _ (List.mem_append_right _ (List.mem_append_right _ (List.mem_append_right _ (List.mem_append_left _ (List.mem_of_getElem? h)))))))), hg⟩
theorem tq8 {w : Cond} (i : Nat) (h : tables_1_8[i]? = some w) (hg : goodWord w = true) : w ∈ TB := List.mem_filter.mpr ⟨List.mem_append_right _ (List.mem_append_right _ (List.mem_append_right _ (List.mem_append_right _ (List.mem_append_right _ (List.mem_append_right _ (List.mem_append_right _ (List.mem_append_right _ (List.mem_append_left _ (List.mem_of_getElem? h))))))))), hg⟩
theorem tq9 {w : Cond} (i : Nat) (h : tables_1_9[i]? = some w) (hg : goodWord w = true) : w ∈ TB := List.mem_filter.mpr ⟨List.mem_append_right _ (List.mem_append_right _ (List.mem_append_right _ (List.mem_append_right _ (List.mem_append_right _ (List.mem_append_right _ (List.mem_append_right _ (List.mem_append_right _ (List.mem_append_right _ (List.mem_append_left _ (List.mem_of_getElem? h)))))))))), hg⟩
theorem tq10 {w : Cond} (i : Nat) (h : tables_1_10[i]? = some w) (hg : goodWord w = true) : w ∈ TB := List.mem_filter.mpr ⟨List.mem_append_right _ (List.mem_append_right _ (List.mem_append_right _ (List.mem_append_right _ (List.mem_append_right _ (List.mem_append_right _ (List.mem_append_right _ (List.mem_append_right _ (List.mem_append_right _ (List.mem_append_right _ (List.mem_append_left _ (List.mem_of_getElem? h))))))))))), hg⟩
theorem tq11 {w : Cond} (i : Nat) (h : tables_1_11[i]? = some w) (hg : goodWord w = true) : w ∈ TB := List.mem_filter.mpr ⟨List.mem_append_right _ (List.mem_append_right _ (List.mem_append_right _ (List.mem_append_right _ (List.mem_append_right _ (List.mem_append_right _ (List.mem_append_right _ (List.mem_append_right _ (List.mem_append_right _ (List.mem_append_right _ (List.mem_append_right _ (List.mem_append_left _ (List.mem_of_getElem? h)))))))))))), hg⟩
theorem tq12 {w : Cond} (i : Nat) (h : tables_1_12[i]? = some w) (hg : goodWord w = true) : w ∈ TB := List.mem_filter.mpr ⟨List.mem_append_right _ (List.mem_append_right _ (List.mem_append_right _ (List.mem_append_right _ (List.mem_append_right _ (List.mem_append_right _ (List.mem_append_right _ (List.mem_append_right _ (List.mem_append_right _ (List.mem_append_right _ (List.mem_append_right _ (List.mem_append_right _ (List.mem_of_getElem? h)))))))))))), hg⟩
theorem lk_Law_8 : (Jvm.Cond.classLink "RowForgeLaw" (8 : Nat) "RowForge") ∈ TB := tq1 37 rfl rfl
theorem lk_Law_150 : (Jvm.Cond.methodLink "RowForgeLaw" (150 : Nat) ({ cls := "RowForge", name := "<init>", desc := "()V" } : Jvm.MethodName)) ∈ TB := tq1 39 rfl rfl
theorem lk_F_3 : (Jvm.Cond.methodLink "RowForge" (3 : Nat) ({ cls := "java/lang/Object", name := "<init>", desc := "()V" } : Jvm.MethodName)) ∈ TB := tq1 42 rfl rfl
theorem lk_F_9 : (Jvm.Cond.classLink "RowForge" (9 : Nat) "RowForge$Schema") ∈ TB := tq1 45 rfl rfl
theorem lk_F_11 : (Jvm.Cond.methodLink "RowForge" (11 : Nat) ({ cls := "RowForge$Schema", name := "<init>", desc := "()V" } : Jvm.MethodName)) ∈ TB := tq1 47 rfl rfl
theorem lk_Schema_3 : (Jvm.Cond.methodLink "RowForge$Schema" (3 : Nat) ({ cls := "java/lang/Object", name := "<init>", desc := "()V" } : Jvm.MethodName)) ∈ TB := tq1 50 rfl rfl
theorem lk_Schema_30 : (Jvm.Cond.methodLink "RowForge$Schema" (30 : Nat) ({ cls := "java/util/Arrays", name := "fill", desc := "([II)V" } : Jvm.MethodName)) ∈ TB := tq1 51 rfl rfl
theorem lk_Planner_46 : (Jvm.Cond.fieldLink "RowForge$Planner" (46 : Nat) "RowForge$Schema" "tables" "I") ∈ TB := tq1 54 rfl rfl
theorem lk_Schema_36 : (Jvm.Cond.fieldLink "RowForge$Schema" (36 : Nat) "RowForge$Schema" "tables" "I") ∈ TB := tq1 55 rfl rfl
theorem lk_F_74 : (Jvm.Cond.fieldLink "RowForge" (74 : Nat) "RowForge$Schema" "tables" "I") ∈ TB := tq1 56 rfl rfl
theorem lk_Trial_166 : (Jvm.Cond.fieldLink "RowForge$Trial" (166 : Nat) "RowForge$Schema" "tables" "I") ∈ TB := tq1 57 rfl rfl
theorem lk_Schema_9 : (Jvm.Cond.fieldLink "RowForge$Schema" (9 : Nat) "RowForge$Schema" "widths" "[I") ∈ TB := tq1 58 rfl rfl
theorem lk_Planner_58 : (Jvm.Cond.fieldLink "RowForge$Planner" (58 : Nat) "RowForge$Schema" "widths" "[I") ∈ TB := tq1 59 rfl rfl
theorem lk_Trial_76 : (Jvm.Cond.fieldLink "RowForge$Trial" (76 : Nat) "RowForge$Schema" "widths" "[I") ∈ TB := tq1 60 rfl rfl
theorem lk_F_164 : (Jvm.Cond.fieldLink "RowForge" (164 : Nat) "RowForge$Schema" "widths" "[I") ∈ TB := tq1 61 rfl rfl
theorem lk_Schema_15 : (Jvm.Cond.fieldLink "RowForge$Schema" (15 : Nat) "RowForge$Schema" "checkCounts" "[I") ∈ TB := tq1 62 rfl rfl
theorem lk_F_107 : (Jvm.Cond.fieldLink "RowForge" (107 : Nat) "RowForge$Schema" "checkCounts" "[I") ∈ TB := tq1 63 rfl rfl
theorem lk_Schema_18 : (Jvm.Cond.fieldLink "RowForge$Schema" (18 : Nat) "RowForge$Schema" "checkData" "[I") ∈ TB := tq1 64 rfl rfl
theorem lk_Schema_21 : (Jvm.Cond.fieldLink "RowForge$Schema" (21 : Nat) "RowForge$Schema" "targets" "[I") ∈ TB := tq1 65 rfl rfl
theorem lk_Trial_153 : (Jvm.Cond.fieldLink "RowForge$Trial" (153 : Nat) "RowForge$Schema" "targets" "[I") ∈ TB := tq1 66 rfl rfl
theorem lk_Schema_24 : (Jvm.Cond.fieldLink "RowForge$Schema" (24 : Nat) "RowForge$Schema" "rules" "[I") ∈ TB := tq1 67 rfl rfl
theorem lk_Trial_159 : (Jvm.Cond.fieldLink "RowForge$Trial" (159 : Nat) "RowForge$Schema" "rules" "[I") ∈ TB := tq1 68 rfl rfl
theorem lk_F_134 : (Jvm.Cond.fieldLink "RowForge" (134 : Nat) "RowForge$Schema" "veils" "I") ∈ TB := tq1 69 rfl rfl
theorem lk_Schema_44 : (Jvm.Cond.fieldLink "RowForge$Schema" (44 : Nat) "RowForge$Schema" "veils" "I") ∈ TB := tq1 70 rfl rfl
theorem lk_Schema_27 : (Jvm.Cond.fieldLink "RowForge$Schema" (27 : Nat) "RowForge$Schema" "veilData" "[I") ∈ TB := tq1 71 rfl rfl
theorem lk_F_16 : (Jvm.Cond.classLink "RowForge" (16 : Nat) "RowForge$Engine") ∈ TB := tq1 90 rfl rfl
theorem lk_F_18 : (Jvm.Cond.methodLink "RowForge" (18 : Nat) ({ cls := "RowForge$Engine", name := "<init>", desc := "(LRowForge$Schema;)V" } : Jvm.MethodName)) ∈ TB := tq1 92 rfl rfl
theorem lk_Engine_3 : (Jvm.Cond.methodLink "RowForge$Engine" (3 : Nat) ({ cls := "java/lang/Object", name := "<init>", desc := "()V" } : Jvm.MethodName)) ∈ TB := tq1 95 rfl rfl
theorem lk_Engine_9 : (Jvm.Cond.classLink "RowForge$Engine" (9 : Nat) "RowForge$Rows") ∈ TB := tq1 96 rfl rfl
theorem lk_Engine_11 : (Jvm.Cond.methodLink "RowForge$Engine" (11 : Nat) ({ cls := "RowForge$Rows", name := "<init>", desc := "()V" } : Jvm.MethodName)) ∈ TB := tq1 98 rfl rfl
theorem lk_Rows_3 : (Jvm.Cond.methodLink "RowForge$Rows" (3 : Nat) ({ cls := "java/lang/Object", name := "<init>", desc := "()V" } : Jvm.MethodName)) ∈ TB := tq1 101 rfl rfl
theorem lk_Rows_15 : (Jvm.Cond.constant "RowForge$Rows" (15 : Nat) (-2147483648 : Int32)) ∈ TB := tq1 102 rfl rfl
theorem lk_Rows_16 : (Jvm.Cond.methodLink "RowForge$Rows" (16 : Nat) ({ cls := "java/util/Arrays", name := "fill", desc := "([II)V" } : Jvm.MethodName)) ∈ TB := tq1 103 rfl rfl
theorem lk_Rows_9 : (Jvm.Cond.fieldLink "RowForge$Rows" (9 : Nat) "RowForge$Rows" "cells" "[I") ∈ TB := tq1 104 rfl rfl
theorem lk_Planner_65 : (Jvm.Cond.fieldLink "RowForge$Planner" (65 : Nat) "RowForge$Rows" "cells" "[I") ∈ TB := tq1 105 rfl rfl
theorem lk_Log_47 : (Jvm.Cond.fieldLink "RowForge$Log" (47 : Nat) "RowForge$Rows" "cells" "[I") ∈ TB := tq1 106 rfl rfl
theorem lk_Trial_117 : (Jvm.Cond.fieldLink "RowForge$Trial" (117 : Nat) "RowForge$Rows" "cells" "[I") ∈ TB := tq1 107 rfl rfl
theorem lk_Evaluator_104 : (Jvm.Cond.fieldLink "RowForge$Evaluator" (104 : Nat) "RowForge$Rows" "cells" "[I") ∈ TB := tq1 108 rfl rfl
theorem lk_Engine_221 : (Jvm.Cond.fieldLink "RowForge$Engine" (221 : Nat) "RowForge$Rows" "cells" "[I") ∈ TB := tq1 109 rfl rfl
theorem lk_Engine_18 : (Jvm.Cond.classLink "RowForge$Engine" (18 : Nat) "java/util/ArrayList") ∈ TB := tq1 113 rfl rfl
theorem lk_Engine_20 : (Jvm.Cond.methodLink "RowForge$Engine" (20 : Nat) ({ cls := "java/util/ArrayList", name := "<init>", desc := "()V" } : Jvm.MethodName)) ∈ TB := tq1 115 rfl rfl
theorem lk_java_util_ArrayList_1 : (Jvm.Cond.methodLink "java/util/ArrayList" (1 : Nat) ({ cls := "java/util/AbstractList", name := "<init>", desc := "()V" } : Jvm.MethodName)) ∈ TB := tq1 118 rfl rfl
theorem lk_java_util_ArrayList_39 : (Jvm.Cond.fieldLink "java/util/ArrayList" (39 : Nat) "java/util/ArrayList" "DEFAULTCAPACITY_EMPTY_ELEMENTDATA" "[Ljava/lang/Object;") ∈ TB := tq1 125 rfl rfl
theorem lk_java_util_ArrayList_9 : (Jvm.Cond.fieldLink "java/util/ArrayList" (9 : Nat) "java/util/ArrayList" "elementData" "[Ljava/lang/Object;") ∈ TB := tq1 127 rfl rfl
theorem lk_java_util_ArrayList_48 : (Jvm.Cond.fieldLink "java/util/ArrayList" (48 : Nat) "java/util/ArrayList" "size" "I") ∈ TB := tq1 128 rfl rfl
theorem lk_java_util_ArrayList_63 : (Jvm.Cond.fieldLink "java/util/ArrayList" (63 : Nat) "java/util/ArrayList" "modCount" "I") ∈ TB := tq1 130 rfl rfl
theorem lk_Engine_25 : (Jvm.Cond.classLink "RowForge$Engine" (25 : Nat) "RowForge$Log") ∈ TB := tq1 139 rfl rfl
theorem lk_Log_5 : (Jvm.Cond.methodLink "RowForge$Log" (5 : Nat) ({ cls := "java/lang/Object", name := "<init>", desc := "()V" } : Jvm.MethodName)) ∈ TB := tq1 144 rfl rfl
theorem lk_Log_22 : (Jvm.Cond.fieldLink "RowForge$Log" (22 : Nat) "RowForge$Log" "length" "I") ∈ TB := tq1 145 rfl rfl
theorem lk_F_330 : (Jvm.Cond.fieldLink "RowForge" (330 : Nat) "RowForge$Log" "length" "I") ∈ TB := tq1 146 rfl rfl
theorem lk_Log_60 : (Jvm.Cond.fieldLink "RowForge$Log" (60 : Nat) "RowForge$Log" "safe" "I") ∈ TB := tq1 147 rfl rfl
theorem lk_F_333 : (Jvm.Cond.fieldLink "RowForge" (333 : Nat) "RowForge$Log" "safe" "I") ∈ TB := tq1 148 rfl rfl
theorem lk_Log_11 : (Jvm.Cond.fieldLink "RowForge$Log" (11 : Nat) "RowForge$Log" "data" "[I") ∈ TB := tq1 149 rfl rfl
theorem lk_Log_15 : (Jvm.Cond.fieldLink "RowForge$Log" (15 : Nat) "RowForge$Log" "isCommitted" "[Z") ∈ TB := tq1 150 rfl rfl
theorem lk_Log_19 : (Jvm.Cond.fieldLink "RowForge$Log" (19 : Nat) "RowForge$Log" "isLeftOpen" "[Z") ∈ TB := tq1 151 rfl rfl
theorem lk_Engine_246 : (Jvm.Cond.fieldLink "RowForge$Engine" (246 : Nat) "RowForge$Log" "isLeftOpen" "[Z") ∈ TB := tq1 152 rfl rfl
theorem lk_Engine_42 : (Jvm.Cond.classLink "RowForge$Engine" (42 : Nat) "RowForge$Trial") ∈ TB := tq1 165 rfl rfl
theorem lk_Engine_44 : (Jvm.Cond.methodLink "RowForge$Engine" (44 : Nat) ({ cls := "RowForge$Trial", name := "<init>", desc := "(LRowForge$Schema;)V" } : Jvm.MethodName)) ∈ TB := tq1 167 rfl rfl
theorem lk_Trial_3 : (Jvm.Cond.methodLink "RowForge$Trial" (3 : Nat) ({ cls := "java/lang/Object", name := "<init>", desc := "()V" } : Jvm.MethodName)) ∈ TB := tq1 170 rfl rfl
theorem lk_Trial_9 : (Jvm.Cond.classLink "RowForge$Trial" (9 : Nat) "RowForge$Rows") ∈ TB := tq1 171 rfl rfl
theorem lk_Trial_11 : (Jvm.Cond.methodLink "RowForge$Trial" (11 : Nat) ({ cls := "RowForge$Rows", name := "<init>", desc := "()V" } : Jvm.MethodName)) ∈ TB := tq1 172 rfl rfl
theorem lk_Trial_35 : (Jvm.Cond.fieldLink "RowForge$Trial" (35 : Nat) "RowForge$Trial" "schema" "LRowForge$Schema;") ∈ TB := tq1 173 rfl rfl
theorem lk_Trial_12 : (Jvm.Cond.fieldLink "RowForge$Trial" (12 : Nat) "RowForge$Trial" "after" "LRowForge$Rows;") ∈ TB := tq1 174 rfl rfl
theorem lk_Engine_154 : (Jvm.Cond.fieldLink "RowForge$Engine" (154 : Nat) "RowForge$Trial" "after" "LRowForge$Rows;") ∈ TB := tq1 175 rfl rfl
theorem lk_Trial_18 : (Jvm.Cond.fieldLink "RowForge$Trial" (18 : Nat) "RowForge$Trial" "isGone" "[Z") ∈ TB := tq1 176 rfl rfl
theorem lk_Trial_22 : (Jvm.Cond.fieldLink "RowForge$Trial" (22 : Nat) "RowForge$Trial" "isChanged" "[Z") ∈ TB := tq1 177 rfl rfl
theorem lk_Trial_25 : (Jvm.Cond.fieldLink "RowForge$Trial" (25 : Nat) "RowForge$Trial" "referred" "[I") ∈ TB := tq1 178 rfl rfl
theorem lk_Trial_29 : (Jvm.Cond.fieldLink "RowForge$Trial" (29 : Nat) "RowForge$Trial" "tables" "[I") ∈ TB := tq1 179 rfl rfl
theorem lk_Engine_134 : (Jvm.Cond.fieldLink "RowForge$Engine" (134 : Nat) "RowForge$Trial" "tables" "[I") ∈ TB := tq1 180 rfl rfl
theorem lk_Trial_32 : (Jvm.Cond.fieldLink "RowForge$Trial" (32 : Nat) "RowForge$Trial" "keys" "[I") ∈ TB := tq1 181 rfl rfl
theorem lk_Engine_137 : (Jvm.Cond.fieldLink "RowForge$Engine" (137 : Nat) "RowForge$Trial" "keys" "[I") ∈ TB := tq1 182 rfl rfl
theorem lk_Trial_48 : (Jvm.Cond.fieldLink "RowForge$Trial" (48 : Nat) "RowForge$Trial" "count" "I") ∈ TB := tq1 183 rfl rfl
theorem lk_Engine_131 : (Jvm.Cond.fieldLink "RowForge$Engine" (131 : Nat) "RowForge$Trial" "count" "I") ∈ TB := tq1 184 rfl rfl
theorem lk_Engine_51 : (Jvm.Cond.methodLink "RowForge$Engine" (51 : Nat) ({ cls := "java/util/Arrays", name := "fill", desc := "([II)V" } : Jvm.MethodName)) ∈ TB := tq1 202 rfl rfl
theorem lk_Engine_47 : (Jvm.Cond.fieldLink "RowForge$Engine" (47 : Nat) "RowForge$Engine" "trial" "LRowForge$Trial;") ∈ TB := tq1 203 rfl rfl
theorem lk_Engine_12 : (Jvm.Cond.fieldLink "RowForge$Engine" (12 : Nat) "RowForge$Engine" "stored" "LRowForge$Rows;") ∈ TB := tq1 204 rfl rfl
theorem lk_F_110 : (Jvm.Cond.fieldLink "RowForge" (110 : Nat) "RowForge$Engine" "stored" "LRowForge$Rows;") ∈ TB := tq1 205 rfl rfl
theorem lk_Engine_21 : (Jvm.Cond.fieldLink "RowForge$Engine" (21 : Nat) "RowForge$Engine" "transactions" "Ljava/util/ArrayList;") ∈ TB := tq1 206 rfl rfl
theorem lk_F_144 : (Jvm.Cond.fieldLink "RowForge" (144 : Nat) "RowForge$Engine" "transactions" "Ljava/util/ArrayList;") ∈ TB := tq1 207 rfl rfl
theorem lk_Engine_28 : (Jvm.Cond.fieldLink "RowForge$Engine" (28 : Nat) "RowForge$Engine" "log" "LRowForge$Log;") ∈ TB := tq1 208 rfl rfl
theorem lk_F_219 : (Jvm.Cond.fieldLink "RowForge" (219 : Nat) "RowForge$Engine" "log" "LRowForge$Log;") ∈ TB := tq1 209 rfl rfl
theorem lk_Engine_32 : (Jvm.Cond.fieldLink "RowForge$Engine" (32 : Nat) "RowForge$Engine" "writers" "[I") ∈ TB := tq1 210 rfl rfl
theorem lk_Engine_36 : (Jvm.Cond.fieldLink "RowForge$Engine" (36 : Nat) "RowForge$Engine" "stamps" "[I") ∈ TB := tq1 211 rfl rfl
theorem lk_Engine_39 : (Jvm.Cond.fieldLink "RowForge$Engine" (39 : Nat) "RowForge$Engine" "tableStamps" "[I") ∈ TB := tq1 212 rfl rfl
theorem lk_Engine_74 : (Jvm.Cond.fieldLink "RowForge$Engine" (74 : Nat) "RowForge$Engine" "commits" "I") ∈ TB := tq1 213 rfl rfl
theorem lk_F_25 : (Jvm.Cond.classLink "RowForge" (25 : Nat) "RowForge$Evaluator") ∈ TB := tq1 231 rfl rfl
theorem lk_F_27 : (Jvm.Cond.methodLink "RowForge" (27 : Nat) ({ cls := "RowForge$Evaluator", name := "<init>", desc := "(LRowForge$Schema;)V" } : Jvm.MethodName)) ∈ TB := tq1 233 rfl rfl
theorem lk_Evaluator_3 : (Jvm.Cond.methodLink "RowForge$Evaluator" (3 : Nat) ({ cls := "java/lang/Object", name := "<init>", desc := "()V" } : Jvm.MethodName)) ∈ TB := tq1 236 rfl rfl
theorem lk_Evaluator_9 : (Jvm.Cond.classLink "RowForge$Evaluator" (9 : Nat) "RowForge$Relation") ∈ TB := tq1 237 rfl rfl
theorem lk_Relation_3 : (Jvm.Cond.methodLink "RowForge$Relation" (3 : Nat) ({ cls := "java/lang/Object", name := "<init>", desc := "()V" } : Jvm.MethodName)) ∈ TB := tq2 3 rfl rfl
theorem lk_Relation_9 : (Jvm.Cond.fieldLink "RowForge$Relation" (9 : Nat) "RowForge$Relation" "cells" "[I") ∈ TB := tq2 4 rfl rfl
theorem lk_Evaluator_142 : (Jvm.Cond.fieldLink "RowForge$Evaluator" (142 : Nat) "RowForge$Relation" "cells" "[I") ∈ TB := tq2 5 rfl rfl
theorem lk_Relation_15 : (Jvm.Cond.fieldLink "RowForge$Relation" (15 : Nat) "RowForge$Relation" "rows" "I") ∈ TB := tq2 6 rfl rfl
theorem lk_Evaluator_61 : (Jvm.Cond.fieldLink "RowForge$Evaluator" (61 : Nat) "RowForge$Relation" "rows" "I") ∈ TB := tq2 7 rfl rfl
theorem lk_F_285 : (Jvm.Cond.fieldLink "RowForge" (285 : Nat) "RowForge$Relation" "rows" "I") ∈ TB := tq2 8 rfl rfl
theorem lk_Relation_19 : (Jvm.Cond.fieldLink "RowForge$Relation" (19 : Nat) "RowForge$Relation" "width" "I") ∈ TB := tq2 9 rfl rfl
theorem lk_Evaluator_54 : (Jvm.Cond.fieldLink "RowForge$Evaluator" (54 : Nat) "RowForge$Relation" "width" "I") ∈ TB := tq2 10 rfl rfl
theorem lk_Evaluator_28 : (Jvm.Cond.fieldLink "RowForge$Evaluator" (28 : Nat) "RowForge$Evaluator" "schema" "LRowForge$Schema;") ∈ TB := tq2 18 rfl rfl
theorem lk_Evaluator_11 : (Jvm.Cond.fieldLink "RowForge$Evaluator" (11 : Nat) "RowForge$Evaluator" "stack" "[LRowForge$Relation;") ∈ TB := tq2 19 rfl rfl
theorem lk_Evaluator_17 : (Jvm.Cond.fieldLink "RowForge$Evaluator" (17 : Nat) "RowForge$Evaluator" "order" "[I") ∈ TB := tq2 20 rfl rfl
theorem lk_Evaluator_21 : (Jvm.Cond.fieldLink "RowForge$Evaluator" (21 : Nat) "RowForge$Evaluator" "spare" "[I") ∈ TB := tq2 21 rfl rfl
theorem lk_Evaluator_24 : (Jvm.Cond.fieldLink "RowForge$Evaluator" (24 : Nat) "RowForge$Evaluator" "isMatched" "[Z") ∈ TB := tq2 22 rfl rfl
theorem lk_Evaluator_33 : (Jvm.Cond.fieldLink "RowForge$Evaluator" (33 : Nat) "RowForge$Evaluator" "depth" "I") ∈ TB := tq2 23 rfl rfl
theorem lk_Evaluator_37 : (Jvm.Cond.fieldLink "RowForge$Evaluator" (37 : Nat) "RowForge$Evaluator" "hasFailed" "Z") ∈ TB := tq2 24 rfl rfl
theorem lk_F_32 : (Jvm.Cond.classLink "RowForge" (32 : Nat) "RowForge$Planner") ∈ TB := tq2 40 rfl rfl
theorem lk_Planner_3 : (Jvm.Cond.methodLink "RowForge$Planner" (3 : Nat) ({ cls := "java/lang/Object", name := "<init>", desc := "()V" } : Jvm.MethodName)) ∈ TB := tq2 45 rfl rfl
theorem lk_Planner_9 : (Jvm.Cond.fieldLink "RowForge$Planner" (9 : Nat) "RowForge$Planner" "tableRows" "[I") ∈ TB := tq2 46 rfl rfl
theorem lk_Planner_15 : (Jvm.Cond.fieldLink "RowForge$Planner" (15 : Nat) "RowForge$Planner" "distinct" "[I") ∈ TB := tq2 47 rfl rfl
theorem lk_Planner_18 : (Jvm.Cond.fieldLink "RowForge$Planner" (18 : Nat) "RowForge$Planner" "isReached" "[Z") ∈ TB := tq2 48 rfl rfl
theorem lk_Planner_22 : (Jvm.Cond.fieldLink "RowForge$Planner" (22 : Nat) "RowForge$Planner" "offsets" "[I") ∈ TB := tq2 49 rfl rfl
theorem lk_Planner_127 : (Jvm.Cond.fieldLink "RowForge$Planner" (127 : Nat) "RowForge$Planner" "leaves" "I") ∈ TB := tq2 50 rfl rfl
theorem lk_Planner_25 : (Jvm.Cond.fieldLink "RowForge$Planner" (25 : Nat) "RowForge$Planner" "leafRows" "[I") ∈ TB := tq2 51 rfl rfl
theorem lk_Planner_28 : (Jvm.Cond.fieldLink "RowForge$Planner" (28 : Nat) "RowForge$Planner" "isScanLeaf" "[Z") ∈ TB := tq2 52 rfl rfl
theorem lk_Planner_31 : (Jvm.Cond.fieldLink "RowForge$Planner" (31 : Nat) "RowForge$Planner" "leafOfColumn" "[I") ∈ TB := tq2 53 rfl rfl
theorem lk_Planner_34 : (Jvm.Cond.fieldLink "RowForge$Planner" (34 : Nat) "RowForge$Planner" "valuesOfColumn" "[I") ∈ TB := tq2 54 rfl rfl
theorem lk_Planner_142 : (Jvm.Cond.fieldLink "RowForge$Planner" (142 : Nat) "RowForge$Planner" "joins" "I") ∈ TB := tq2 55 rfl rfl
theorem lk_Planner_37 : (Jvm.Cond.fieldLink "RowForge$Planner" (37 : Nat) "RowForge$Planner" "joinLefts" "[I") ∈ TB := tq2 56 rfl rfl
theorem lk_Planner_40 : (Jvm.Cond.fieldLink "RowForge$Planner" (40 : Nat) "RowForge$Planner" "joinRights" "[I") ∈ TB := tq2 57 rfl rfl
theorem lk_Planner_43 : (Jvm.Cond.fieldLink "RowForge$Planner" (43 : Nat) "RowForge$Planner" "tried" "[I") ∈ TB := tq2 58 rfl rfl
theorem lk_Planner_93 : (Jvm.Cond.fieldLink "RowForge$Planner" (93 : Nat) "RowForge$Planner" "found" "I") ∈ TB := tq2 59 rfl rfl
theorem lk_F_312 : (Jvm.Cond.fieldLink "RowForge" (312 : Nat) "RowForge$Planner" "found" "I") ∈ TB := tq2 60 rfl rfl
theorem lk_F_39 : (Jvm.Cond.classLink "RowForge" (39 : Nat) "java/util/ArrayList") ∈ TB := tq2 90 rfl rfl
theorem lk_F_41 : (Jvm.Cond.methodLink "RowForge" (41 : Nat) ({ cls := "java/util/ArrayList", name := "<init>", desc := "()V" } : Jvm.MethodName)) ∈ TB := tq2 91 rfl rfl
theorem lk_F_52 : (Jvm.Cond.classLink "RowForge" (52 : Nat) "RowForge$Relation") ∈ TB := tq2 92 rfl rfl
theorem lk_F_63 : (Jvm.Cond.classLink "RowForge" (63 : Nat) "RowForge$Query") ∈ TB := tq2 94 rfl rfl
theorem lk_Query_3 : (Jvm.Cond.methodLink "RowForge$Query" (3 : Nat) ({ cls := "java/lang/Object", name := "<init>", desc := "()V" } : Jvm.MethodName)) ∈ TB := tq2 99 rfl rfl
theorem lk_Query_33 : (Jvm.Cond.fieldLink "RowForge$Query" (33 : Nat) "RowForge$Query" "count" "I") ∈ TB := tq2 100 rfl rfl
theorem lk_Evaluator_41 : (Jvm.Cond.fieldLink "RowForge$Evaluator" (41 : Nat) "RowForge$Query" "count" "I") ∈ TB := tq2 101 rfl rfl
theorem lk_Planner_96 : (Jvm.Cond.fieldLink "RowForge$Planner" (96 : Nat) "RowForge$Query" "count" "I") ∈ TB := tq2 102 rfl rfl
theorem lk_F_230 : (Jvm.Cond.fieldLink "RowForge" (230 : Nat) "RowForge$Query" "count" "I") ∈ TB := tq2 103 rfl rfl
theorem lk_Query_37 : (Jvm.Cond.fieldLink "RowForge$Query" (37 : Nat) "RowForge$Query" "scans" "I") ∈ TB := tq2 104 rfl rfl
theorem lk_F_232 : (Jvm.Cond.fieldLink "RowForge" (232 : Nat) "RowForge$Query" "scans" "I") ∈ TB := tq2 105 rfl rfl
theorem lk_Query_9 : (Jvm.Cond.fieldLink "RowForge$Query" (9 : Nat) "RowForge$Query" "kinds" "[I") ∈ TB := tq2 106 rfl rfl
theorem lk_Evaluator_68 : (Jvm.Cond.fieldLink "RowForge$Evaluator" (68 : Nat) "RowForge$Query" "kinds" "[I") ∈ TB := tq2 107 rfl rfl
theorem lk_Planner_111 : (Jvm.Cond.fieldLink "RowForge$Planner" (111 : Nat) "RowForge$Query" "kinds" "[I") ∈ TB := tq2 108 rfl rfl
theorem lk_Query_15 : (Jvm.Cond.fieldLink "RowForge$Query" (15 : Nat) "RowForge$Query" "parameters" "[I") ∈ TB := tq2 109 rfl rfl
theorem lk_Query_18 : (Jvm.Cond.fieldLink "RowForge$Query" (18 : Nat) "RowForge$Query" "widths" "[I") ∈ TB := tq2 110 rfl rfl
theorem lk_Evaluator_71 : (Jvm.Cond.fieldLink "RowForge$Evaluator" (71 : Nat) "RowForge$Query" "widths" "[I") ∈ TB := tq2 111 rfl rfl
theorem lk_Planner_126 : (Jvm.Cond.fieldLink "RowForge$Planner" (126 : Nat) "RowForge$Query" "widths" "[I") ∈ TB := tq2 112 rfl rfl
theorem lk_Query_21 : (Jvm.Cond.fieldLink "RowForge$Query" (21 : Nat) "RowForge$Query" "firsts" "[I") ∈ TB := tq2 113 rfl rfl
theorem lk_Planner_120 : (Jvm.Cond.fieldLink "RowForge$Planner" (120 : Nat) "RowForge$Query" "firsts" "[I") ∈ TB := tq2 114 rfl rfl
theorem lk_Query_24 : (Jvm.Cond.fieldLink "RowForge$Query" (24 : Nat) "RowForge$Query" "seconds" "[I") ∈ TB := tq2 115 rfl rfl
theorem lk_Planner_123 : (Jvm.Cond.fieldLink "RowForge$Planner" (123 : Nat) "RowForge$Query" "seconds" "[I") ∈ TB := tq2 116 rfl rfl
theorem lk_Query_40 : (Jvm.Cond.fieldLink "RowForge$Query" (40 : Nat) "RowForge$Query" "trees" "I") ∈ TB := tq2 117 rfl rfl
theorem lk_F_228 : (Jvm.Cond.fieldLink "RowForge" (228 : Nat) "RowForge$Query" "trees" "I") ∈ TB := tq2 118 rfl rfl
theorem lk_Query_27 : (Jvm.Cond.fieldLink "RowForge$Query" (27 : Nat) "RowForge$Query" "roots" "[I") ∈ TB := tq2 119 rfl rfl
theorem lk_Planner_145 : (Jvm.Cond.fieldLink "RowForge$Planner" (145 : Nat) "RowForge$Query" "isPlanned" "Z") ∈ TB := tq2 120 rfl rfl
theorem lk_F_295 : (Jvm.Cond.fieldLink "RowForge" (295 : Nat) "RowForge$Query" "isPlanned" "Z") ∈ TB := tq2 121 rfl rfl
theorem lk_Planner_156 : (Jvm.Cond.fieldLink "RowForge$Planner" (156 : Nat) "RowForge$Query" "cost" "I") ∈ TB := tq2 122 rfl rfl
theorem lk_F_303 : (Jvm.Cond.fieldLink "RowForge" (303 : Nat) "RowForge$Query" "cost" "I") ∈ TB := tq2 123 rfl rfl
theorem lk_Planner_159 : (Jvm.Cond.fieldLink "RowForge$Planner" (159 : Nat) "RowForge$Query" "leaves" "I") ∈ TB := tq2 124 rfl rfl
theorem lk_F_306 : (Jvm.Cond.fieldLink "RowForge" (306 : Nat) "RowForge$Query" "leaves" "I") ∈ TB := tq2 125 rfl rfl
theorem lk_Query_30 : (Jvm.Cond.fieldLink "RowForge$Query" (30 : Nat) "RowForge$Query" "order" "[I") ∈ TB := tq2 126 rfl rfl
theorem lk_Planner_160 : (Jvm.Cond.fieldLink "RowForge$Planner" (160 : Nat) "RowForge$Query" "order" "[I") ∈ TB := tq2 127 rfl rfl
theorem lk_F_309 : (Jvm.Cond.fieldLink "RowForge" (309 : Nat) "RowForge$Query" "order" "[I") ∈ TB := tq2 128 rfl rfl
theorem lk_F_12 : (Jvm.Cond.fieldLink "RowForge" (12 : Nat) "RowForge" "schema" "LRowForge$Schema;") ∈ TB := tq2 156 rfl rfl
theorem lk_F_21 : (Jvm.Cond.fieldLink "RowForge" (21 : Nat) "RowForge" "engine" "LRowForge$Engine;") ∈ TB := tq2 157 rfl rfl
theorem lk_F_28 : (Jvm.Cond.fieldLink "RowForge" (28 : Nat) "RowForge" "evaluator" "LRowForge$Evaluator;") ∈ TB := tq2 158 rfl rfl
theorem lk_F_35 : (Jvm.Cond.fieldLink "RowForge" (35 : Nat) "RowForge" "planner" "LRowForge$Planner;") ∈ TB := tq2 159 rfl rfl
theorem lk_F_42 : (Jvm.Cond.fieldLink "RowForge" (42 : Nat) "RowForge" "queries" "Ljava/util/ArrayList;") ∈ TB := tq2 160 rfl rfl
theorem lk_F_46 : (Jvm.Cond.fieldLink "RowForge" (46 : Nat) "RowForge" "viewQueries" "Ljava/util/ArrayList;") ∈ TB := tq2 161 rfl rfl
theorem lk_F_49 : (Jvm.Cond.fieldLink "RowForge" (49 : Nat) "RowForge" "viewResults" "Ljava/util/ArrayList;") ∈ TB := tq2 162 rfl rfl
theorem lk_F_55 : (Jvm.Cond.fieldLink "RowForge" (55 : Nat) "RowForge" "lastResult" "LRowForge$Relation;") ∈ TB := tq2 163 rfl rfl
theorem lk_F_59 : (Jvm.Cond.fieldLink "RowForge" (59 : Nat) "RowForge" "draft" "[I") ∈ TB := tq2 164 rfl rfl
theorem lk_F_154 : (Jvm.Cond.fieldLink "RowForge" (154 : Nat) "RowForge" "drafted" "I") ∈ TB := tq2 165 rfl rfl
theorem lk_F_66 : (Jvm.Cond.fieldLink "RowForge" (66 : Nat) "RowForge" "trees" "LRowForge$Query;") ∈ TB := tq2 166 rfl rfl
theorem lk_Law_247 : (Jvm.Cond.methodLink "RowForgeLaw" (247 : Nat) ({ cls := "RowForge", name := "scrap", desc := "()I" } : Jvm.MethodName)) ∈ TB := tq2 190 rfl rfl
theorem lk_F_260 : (Jvm.Cond.methodLink "RowForge" (260 : Nat) ({ cls := "RowForge$Query", name := "clear", desc := "()V" } : Jvm.MethodName)) ∈ TB := tq2 194 rfl rfl
theorem lk_Law_264 : (Jvm.Cond.methodLink "RowForgeLaw" (264 : Nat) ({ cls := "RowForge", name := "analyze", desc := "()I" } : Jvm.MethodName)) ∈ TB := tq2 198 rfl rfl
theorem lk_F_291 : (Jvm.Cond.methodLink "RowForge" (291 : Nat) ({ cls := "RowForge$Planner", name := "takeStatistics", desc := "(LRowForge$Schema;LRowForge$Rows;)V" } : Jvm.MethodName)) ∈ TB := tq2 202 rfl rfl
theorem lk_Planner_52 : (Jvm.Cond.methodLink "RowForge$Planner" (52 : Nat) ({ cls := "RowForge$Rows", name := "count", desc := "(I)I" } : Jvm.MethodName)) ∈ TB := tq2 206 rfl rfl
theorem lk_Rows_32 : (Jvm.Cond.methodLink "RowForge$Rows" (32 : Nat) ({ cls := "RowForge$Rows", name := "keyAt", desc := "(I)I" } : Jvm.MethodName)) ∈ TB := tq2 210 rfl rfl
theorem lk_Planner_61 : (Jvm.Cond.methodLink "RowForge$Planner" (61 : Nat) ({ cls := "RowForge$Planner", name := "countDistinct", desc := "(LRowForge$Rows;II)I" } : Jvm.MethodName)) ∈ TB := tq2 214 rfl rfl
theorem lk_Planner_68 : (Jvm.Cond.methodLink "RowForge$Planner" (68 : Nat) ({ cls := "RowForge$Rows", name := "startOf", desc := "(I)I" } : Jvm.MethodName)) ∈ TB := tq2 217 rfl rfl
theorem lk_Planner_71 : (Jvm.Cond.constant "RowForge$Planner" (71 : Nat) (-2147483648 : Int32)) ∈ TB := tq2 220 rfl rfl
theorem lk_F_85 : (Jvm.Cond.methodLink "RowForge" (85 : Nat) ({ cls := "RowForge", name := "dropPlans", desc := "()I" } : Jvm.MethodName)) ∈ TB := tq2 221 rfl rfl
theorem lk_F_147 : (Jvm.Cond.methodLink "RowForge" (147 : Nat) ({ cls := "java/util/ArrayList", name := "size", desc := "()I" } : Jvm.MethodName)) ∈ TB := tq2 225 rfl rfl
theorem lk_F_270 : (Jvm.Cond.methodLink "RowForge" (270 : Nat) ({ cls := "java/util/ArrayList", name := "get", desc := "(I)Ljava/lang/Object;" } : Jvm.MethodName)) ∈ TB := tq2 229 rfl rfl
theorem lk_java_util_ArrayList_118 : (Jvm.Cond.methodLink "java/util/ArrayList" (118 : Nat) ({ cls := "java/util/Objects", name := "checkIndex", desc := "(II)I" } : Jvm.MethodName)) ∈ TB := tq2 233 rfl rfl
theorem lk_java_util_ArrayList_123 : (Jvm.Cond.methodLink "java/util/ArrayList" (123 : Nat) ({ cls := "java/util/ArrayList", name := "elementData", desc := "(I)Ljava/lang/Object;" } : Jvm.MethodName)) ∈ TB := tq2 239 rfl rfl
theorem lk_Law_274 : (Jvm.Cond.methodLink "RowForgeLaw" (274 : Nat) ({ cls := "RowForge", name := "planned", desc := "()I" } : Jvm.MethodName)) ∈ TB := tq3 3 rfl rfl
theorem lk_Law_290 : (Jvm.Cond.methodLink "RowForgeLaw" (290 : Nat) ({ cls := "RowForge", name := "checkpoint", desc := "()I" } : Jvm.MethodName)) ∈ TB := tq3 7 rfl rfl
theorem lk_F_153 : (Jvm.Cond.constant "RowForge" (153 : Nat) (-2147483648 : Int32)) ∈ TB := tq3 11 rfl rfl
theorem lk_F_325 : (Jvm.Cond.methodLink "RowForge" (325 : Nat) ({ cls := "RowForge$Log", name := "add", desc := "(IIII)V" } : Jvm.MethodName)) ∈ TB := tq3 12 rfl rfl
theorem lk_Log_26 : (Jvm.Cond.methodLink "RowForge$Log" (26 : Nat) ({ cls := "java/util/Arrays", name := "copyOf", desc := "([II)[I" } : Jvm.MethodName)) ∈ TB := tq3 16 rfl rfl
theorem lk_java_util_Arrays_316 : (Jvm.Cond.methodLink "java/util/Arrays" (316 : Nat) ({ cls := "[I", name := "clone", desc := "()Ljava/lang/Object;" } : Jvm.MethodName)) ∈ TB := tq3 19 rfl rfl
theorem lk_java_util_Arrays_317 : (Jvm.Cond.classLink "java/util/Arrays" (317 : Nat) "[I") ∈ TB := tq3 25 rfl rfl
theorem lk_java_util_Arrays_304 : (Jvm.Cond.methodLink "java/util/Arrays" (304 : Nat) ({ cls := "java/lang/Math", name := "min", desc := "(II)I" } : Jvm.MethodName)) ∈ TB := tq3 26 rfl rfl
theorem lk_java_util_Arrays_150 : (Jvm.Cond.methodLink "java/util/Arrays" (150 : Nat) ({ cls := "java/lang/System", name := "arraycopy", desc := "(Ljava/lang/Object;ILjava/lang/Object;II)V" } : Jvm.MethodName)) ∈ TB := tq3 29 rfl rfl
theorem lk_Log_32 : (Jvm.Cond.constant "RowForge$Log" (32 : Nat) (-2147483648 : Int32)) ∈ TB := tq3 32 rfl rfl
theorem lk_Log_33 : (Jvm.Cond.methodLink "RowForge$Log" (33 : Nat) ({ cls := "java/util/Arrays", name := "fill", desc := "([IIII)V" } : Jvm.MethodName)) ∈ TB := tq3 33 rfl rfl
theorem lk_java_util_Arrays_13 : (Jvm.Cond.methodLink "java/util/Arrays" (13 : Nat) ({ cls := "java/util/Arrays", name := "rangeCheck", desc := "(III)V" } : Jvm.MethodName)) ∈ TB := tq3 36 rfl rfl
theorem lk_java_util_Arrays_43 : (Jvm.Cond.classLink "java/util/Arrays" (43 : Nat) "java/lang/IllegalArgumentException") ∈ TB := tq3 39 rfl rfl
theorem lk_java_util_Arrays_45 : (Jvm.Cond.classLink "java/util/Arrays" (45 : Nat) "java/lang/StringBuilder") ∈ TB := tq3 82 rfl rfl
theorem lk_java_util_Arrays_47 : (Jvm.Cond.methodLink "java/util/Arrays" (47 : Nat) ({ cls := "java/lang/StringBuilder", name := "<init>", desc := "()V" } : Jvm.MethodName)) ∈ TB := tq3 84 rfl rfl
theorem lk_java_util_Arrays_50 : (Jvm.Cond.methodLink "java/util/Arrays" (50 : Nat) ({ cls := "java/lang/StringBuilder", name := "append", desc := "(Ljava/lang/String;)Ljava/lang/StringBuilder;" } : Jvm.MethodName)) ∈ TB := tq3 115 rfl rfl
theorem lk_java_util_Arrays_310 : (Jvm.Cond.methodLink "java/util/Arrays" (310 : Nat) ({ cls := "[B", name := "clone", desc := "()Ljava/lang/Object;" } : Jvm.MethodName)) ∈ TB := tq3 148 rfl rfl
theorem lk_java_util_Arrays_311 : (Jvm.Cond.classLink "java/util/Arrays" (311 : Nat) "[B") ∈ TB := tq3 152 rfl rfl
theorem lk_java_util_Arrays_54 : (Jvm.Cond.methodLink "java/util/Arrays" (54 : Nat) ({ cls := "java/lang/StringBuilder", name := "append", desc := "(I)Ljava/lang/StringBuilder;" } : Jvm.MethodName)) ∈ TB := tq3 227 rfl rfl
theorem lk_java_lang_Integer_83 : (Jvm.Cond.fieldLink "java/lang/Integer" (83 : Nat) "java/lang/Integer" "DigitOnes" "[B") ∈ TB := tq4 0 rfl rfl
theorem lk_java_lang_Integer_87 : (Jvm.Cond.fieldLink "java/lang/Integer" (87 : Nat) "java/lang/Integer" "DigitTens" "[B") ∈ TB := tq4 2 rfl rfl
theorem lk_java_util_Arrays_61 : (Jvm.Cond.methodLink "java/util/Arrays" (61 : Nat) ({ cls := "java/lang/StringBuilder", name := "toString", desc := "()Ljava/lang/String;" } : Jvm.MethodName)) ∈ TB := tq4 14 rfl rfl
theorem lk_java_util_Arrays_339 : (Jvm.Cond.methodLink "java/util/Arrays" (339 : Nat) ({ cls := "java/util/Arrays", name := "copyOfRangeByte", desc := "([BII)[B" } : Jvm.MethodName)) ∈ TB := tq4 44 rfl rfl
theorem lk_java_util_Arrays_343 : (Jvm.Cond.methodLink "java/util/Arrays" (343 : Nat) ({ cls := "java/util/Arrays", name := "checkLength", desc := "(II)V" } : Jvm.MethodName)) ∈ TB := tq4 47 rfl rfl
theorem lk_java_util_Arrays_65 : (Jvm.Cond.methodLink "java/util/Arrays" (65 : Nat) ({ cls := "java/lang/IllegalArgumentException", name := "<init>", desc := "(Ljava/lang/String;)V" } : Jvm.MethodName)) ∈ TB := tq4 51 rfl rfl
theorem lk_java_util_Arrays_68 : (Jvm.Cond.classLink "java/util/Arrays" (68 : Nat) "java/lang/ArrayIndexOutOfBoundsException") ∈ TB := tq4 100 rfl rfl
theorem lk_java_util_Arrays_70 : (Jvm.Cond.methodLink "java/util/Arrays" (70 : Nat) ({ cls := "java/lang/ArrayIndexOutOfBoundsException", name := "<init>", desc := "(I)V" } : Jvm.MethodName)) ∈ TB := tq4 111 rfl rfl
theorem lk_F_327 : (Jvm.Cond.methodLink "RowForge" (327 : Nat) ({ cls := "RowForge$Log", name := "flush", desc := "()V" } : Jvm.MethodName)) ∈ TB := tq4 126 rfl rfl
theorem lk_Law_297 : (Jvm.Cond.methodLink "RowForgeLaw" (297 : Nat) ({ cls := "RowForge", name := "records", desc := "()I" } : Jvm.MethodName)) ∈ TB := tq4 130 rfl rfl
theorem lk_Law_301 : (Jvm.Cond.methodLink "RowForgeLaw" (301 : Nat) ({ cls := "RowForge", name := "flushed", desc := "()I" } : Jvm.MethodName)) ∈ TB := tq4 134 rfl rfl
theorem lk_Law_154 : (Jvm.Cond.methodLink "RowForgeLaw" (154 : Nat) ({ cls := "RowForgeLaw", name := "table", desc := "(LRowForge;I[J)I" } : Jvm.MethodName)) ∈ TB := tq4 138 rfl rfl
theorem lk_Law_13 : (Jvm.Cond.classLink "RowForgeLaw" (13 : Nat) "java/lang/IllegalArgumentException") ∈ TB := tq4 141 rfl rfl
theorem lk_Law_15 : (Jvm.Cond.classLink "RowForgeLaw" (15 : Nat) "java/lang/IllegalStateException") ∈ TB := tq4 142 rfl rfl
theorem lk_Law_7 : (Jvm.Cond.methodLink "RowForgeLaw" (7 : Nat) ({ cls := "RowForge", name := "table", desc := "(I)I" } : Jvm.MethodName)) ∈ TB := tq4 143 rfl rfl
theorem lk_F_70 : (Jvm.Cond.methodLink "RowForge" (70 : Nat) ({ cls := "RowForge", name := "demandRange", desc := "(Z)V" } : Jvm.MethodName)) ∈ TB := tq4 147 rfl rfl
theorem lk_F_357 : (Jvm.Cond.classLink "RowForge" (357 : Nat) "java/lang/IllegalArgumentException") ∈ TB := tq4 150 rfl rfl
theorem lk_F_359 : (Jvm.Cond.methodLink "RowForge" (359 : Nat) ({ cls := "java/lang/IllegalArgumentException", name := "<init>", desc := "()V" } : Jvm.MethodName)) ∈ TB := tq4 151 rfl rfl
theorem lk_F_78 : (Jvm.Cond.methodLink "RowForge" (78 : Nat) ({ cls := "RowForge$Engine", name := "isBusy", desc := "()Z" } : Jvm.MethodName)) ∈ TB := tq4 161 rfl rfl
theorem lk_Engine_71 : (Jvm.Cond.methodLink "RowForge$Engine" (71 : Nat) ({ cls := "RowForge$Engine", name := "countOpen", desc := "()I" } : Jvm.MethodName)) ∈ TB := tq4 165 rfl rfl
theorem lk_Engine_57 : (Jvm.Cond.methodLink "RowForge$Engine" (57 : Nat) ({ cls := "java/util/ArrayList", name := "size", desc := "()I" } : Jvm.MethodName)) ∈ TB := tq4 169 rfl rfl
theorem lk_Engine_61 : (Jvm.Cond.methodLink "RowForge$Engine" (61 : Nat) ({ cls := "java/util/ArrayList", name := "get", desc := "(I)Ljava/lang/Object;" } : Jvm.MethodName)) ∈ TB := tq4 170 rfl rfl
theorem lk_Engine_65 : (Jvm.Cond.classLink "RowForge$Engine" (65 : Nat) "RowForge$Transaction") ∈ TB := tq4 171 rfl rfl
theorem lk_Engine_67 : (Jvm.Cond.methodLink "RowForge$Engine" (67 : Nat) ({ cls := "RowForge$Transaction", name := "isOpen", desc := "()Z" } : Jvm.MethodName)) ∈ TB := tq4 172 rfl rfl
theorem lk_F_82 : (Jvm.Cond.methodLink "RowForge" (82 : Nat) ({ cls := "RowForge", name := "demandState", desc := "(Z)V" } : Jvm.MethodName)) ∈ TB := tq4 176 rfl rfl
theorem lk_F_360 : (Jvm.Cond.classLink "RowForge" (360 : Nat) "java/lang/IllegalStateException") ∈ TB := tq4 179 rfl rfl
theorem lk_F_362 : (Jvm.Cond.methodLink "RowForge" (362 : Nat) ({ cls := "java/lang/IllegalStateException", name := "<init>", desc := "()V" } : Jvm.MethodName)) ∈ TB := tq4 188 rfl rfl
theorem lk_F_89 : (Jvm.Cond.methodLink "RowForge" (89 : Nat) ({ cls := "RowForge$Schema", name := "addTable", desc := "(I)I" } : Jvm.MethodName)) ∈ TB := tq4 194 rfl rfl
theorem lk_Law_163 : (Jvm.Cond.methodLink "RowForgeLaw" (163 : Nat) ({ cls := "RowForgeLaw", name := "check", desc := "(LRowForge;IIII[J)I" } : Jvm.MethodName)) ∈ TB := tq4 198 rfl rfl
theorem lk_Law_21 : (Jvm.Cond.classLink "RowForgeLaw" (21 : Nat) "java/lang/IndexOutOfBoundsException") ∈ TB := tq4 201 rfl rfl
theorem lk_Law_17 : (Jvm.Cond.methodLink "RowForgeLaw" (17 : Nat) ({ cls := "RowForge", name := "check", desc := "(IIII)I" } : Jvm.MethodName)) ∈ TB := tq4 204 rfl rfl
theorem lk_F_93 : (Jvm.Cond.methodLink "RowForge" (93 : Nat) ({ cls := "RowForge$Schema", name := "hasColumn", desc := "(II)Z" } : Jvm.MethodName)) ∈ TB := tq4 208 rfl rfl
theorem lk_Schema_40 : (Jvm.Cond.methodLink "RowForge$Schema" (40 : Nat) ({ cls := "RowForge$Schema", name := "hasTable", desc := "(I)Z" } : Jvm.MethodName)) ∈ TB := tq4 212 rfl rfl
theorem lk_F_97 : (Jvm.Cond.methodLink "RowForge" (97 : Nat) ({ cls := "RowForge", name := "demandPlace", desc := "(Z)V" } : Jvm.MethodName)) ∈ TB := tq4 216 rfl rfl
theorem lk_F_354 : (Jvm.Cond.classLink "RowForge" (354 : Nat) "java/lang/IndexOutOfBoundsException") ∈ TB := tq4 219 rfl rfl
theorem lk_F_356 : (Jvm.Cond.methodLink "RowForge" (356 : Nat) ({ cls := "java/lang/IndexOutOfBoundsException", name := "<init>", desc := "()V" } : Jvm.MethodName)) ∈ TB := tq4 228 rfl rfl
theorem lk_F_100 : (Jvm.Cond.methodLink "RowForge" (100 : Nat) ({ cls := "RowForge", name := "isComparison", desc := "(I)Z" } : Jvm.MethodName)) ∈ TB := tq4 234 rfl rfl
theorem lk_F_104 : (Jvm.Cond.methodLink "RowForge" (104 : Nat) ({ cls := "RowForge", name := "isNumber", desc := "(I)Z" } : Jvm.MethodName)) ∈ TB := tq4 237 rfl rfl
theorem lk_F_114 : (Jvm.Cond.methodLink "RowForge" (114 : Nat) ({ cls := "RowForge$Rows", name := "count", desc := "(I)I" } : Jvm.MethodName)) ∈ TB := tq5 0 rfl rfl
theorem lk_F_119 : (Jvm.Cond.methodLink "RowForge" (119 : Nat) ({ cls := "RowForge$Schema", name := "addCheck", desc := "(IIII)I" } : Jvm.MethodName)) ∈ TB := tq5 1 rfl rfl
theorem lk_Law_167 : (Jvm.Cond.methodLink "RowForgeLaw" (167 : Nat) ({ cls := "RowForgeLaw", name := "refer", desc := "(LRowForge;IIII)I" } : Jvm.MethodName)) ∈ TB := tq5 5 rfl rfl
theorem lk_Law_23 : (Jvm.Cond.methodLink "RowForgeLaw" (23 : Nat) ({ cls := "RowForge", name := "refer", desc := "(IIII)V" } : Jvm.MethodName)) ∈ TB := tq5 8 rfl rfl
theorem lk_F_123 : (Jvm.Cond.methodLink "RowForge" (123 : Nat) ({ cls := "RowForge$Schema", name := "hasTable", desc := "(I)Z" } : Jvm.MethodName)) ∈ TB := tq5 12 rfl rfl
theorem lk_F_126 : (Jvm.Cond.methodLink "RowForge" (126 : Nat) ({ cls := "RowForge$Schema", name := "target", desc := "(II)I" } : Jvm.MethodName)) ∈ TB := tq5 13 rfl rfl
theorem lk_F_130 : (Jvm.Cond.methodLink "RowForge" (130 : Nat) ({ cls := "RowForge$Schema", name := "addReference", desc := "(IIII)V" } : Jvm.MethodName)) ∈ TB := tq5 17 rfl rfl
theorem lk_Law_171 : (Jvm.Cond.methodLink "RowForgeLaw" (171 : Nat) ({ cls := "RowForgeLaw", name := "veil", desc := "(LRowForge;IIIII[J)I" } : Jvm.MethodName)) ∈ TB := tq5 21 rfl rfl
theorem lk_Law_27 : (Jvm.Cond.methodLink "RowForgeLaw" (27 : Nat) ({ cls := "RowForge", name := "veil", desc := "(IIIII)I" } : Jvm.MethodName)) ∈ TB := tq5 24 rfl rfl
theorem lk_F_137 : (Jvm.Cond.methodLink "RowForge" (137 : Nat) ({ cls := "RowForge$Schema", name := "addVeil", desc := "(IIIII)I" } : Jvm.MethodName)) ∈ TB := tq5 28 rfl rfl
theorem lk_Law_175 : (Jvm.Cond.methodLink "RowForgeLaw" (175 : Nat) ({ cls := "RowForgeLaw", name := "begin", desc := "(LRowForge;I[J)I" } : Jvm.MethodName)) ∈ TB := tq5 32 rfl rfl
theorem lk_Law_31 : (Jvm.Cond.methodLink "RowForgeLaw" (31 : Nat) ({ cls := "RowForge", name := "begin", desc := "(I)I" } : Jvm.MethodName)) ∈ TB := tq5 35 rfl rfl
theorem lk_F_141 : (Jvm.Cond.methodLink "RowForge" (141 : Nat) ({ cls := "RowForge$Engine", name := "countOpen", desc := "()I" } : Jvm.MethodName)) ∈ TB := tq5 39 rfl rfl
theorem lk_F_150 : (Jvm.Cond.methodLink "RowForge" (150 : Nat) ({ cls := "RowForge$Engine", name := "start", desc := "(I)I" } : Jvm.MethodName)) ∈ TB := tq5 40 rfl rfl
theorem lk_Engine_78 : (Jvm.Cond.methodLink "RowForge$Engine" (78 : Nat) ({ cls := "RowForge$Transaction", name := "<init>", desc := "(III)V" } : Jvm.MethodName)) ∈ TB := tq5 45 rfl rfl
theorem lk_Transaction_3 : (Jvm.Cond.methodLink "RowForge$Transaction" (3 : Nat) ({ cls := "java/lang/Object", name := "<init>", desc := "()V" } : Jvm.MethodName)) ∈ TB := tq5 48 rfl rfl
theorem lk_Transaction_9 : (Jvm.Cond.classLink "RowForge$Transaction" (9 : Nat) "RowForge$Rows") ∈ TB := tq5 49 rfl rfl
theorem lk_Transaction_11 : (Jvm.Cond.methodLink "RowForge$Transaction" (11 : Nat) ({ cls := "RowForge$Rows", name := "<init>", desc := "()V" } : Jvm.MethodName)) ∈ TB := tq5 50 rfl rfl
theorem lk_Transaction_41 : (Jvm.Cond.fieldLink "RowForge$Transaction" (41 : Nat) "RowForge$Transaction" "number" "I") ∈ TB := tq5 51 rfl rfl
theorem lk_Engine_92 : (Jvm.Cond.fieldLink "RowForge$Engine" (92 : Nat) "RowForge$Transaction" "number" "I") ∈ TB := tq5 52 rfl rfl
theorem lk_Transaction_44 : (Jvm.Cond.fieldLink "RowForge$Transaction" (44 : Nat) "RowForge$Transaction" "role" "I") ∈ TB := tq5 53 rfl rfl
theorem lk_Trial_126 : (Jvm.Cond.fieldLink "RowForge$Trial" (126 : Nat) "RowForge$Transaction" "role" "I") ∈ TB := tq5 54 rfl rfl
theorem lk_F_372 : (Jvm.Cond.fieldLink "RowForge" (372 : Nat) "RowForge$Transaction" "role" "I") ∈ TB := tq5 55 rfl rfl
theorem lk_Transaction_47 : (Jvm.Cond.fieldLink "RowForge$Transaction" (47 : Nat) "RowForge$Transaction" "began" "I") ∈ TB := tq5 56 rfl rfl
theorem lk_Engine_151 : (Jvm.Cond.fieldLink "RowForge$Engine" (151 : Nat) "RowForge$Transaction" "began" "I") ∈ TB := tq5 57 rfl rfl
theorem lk_Transaction_12 : (Jvm.Cond.fieldLink "RowForge$Transaction" (12 : Nat) "RowForge$Transaction" "rows" "LRowForge$Rows;") ∈ TB := tq5 58 rfl rfl
theorem lk_Trial_39 : (Jvm.Cond.fieldLink "RowForge$Trial" (39 : Nat) "RowForge$Transaction" "rows" "LRowForge$Rows;") ∈ TB := tq5 59 rfl rfl
theorem lk_Engine_81 : (Jvm.Cond.fieldLink "RowForge$Engine" (81 : Nat) "RowForge$Transaction" "rows" "LRowForge$Rows;") ∈ TB := tq5 60 rfl rfl
theorem lk_F_212 : (Jvm.Cond.fieldLink "RowForge" (212 : Nat) "RowForge$Transaction" "rows" "LRowForge$Rows;") ∈ TB := tq5 61 rfl rfl
theorem lk_Transaction_18 : (Jvm.Cond.fieldLink "RowForge$Transaction" (18 : Nat) "RowForge$Transaction" "phase" "I") ∈ TB := tq5 62 rfl rfl
theorem lk_Engine_118 : (Jvm.Cond.fieldLink "RowForge$Engine" (118 : Nat) "RowForge$Transaction" "phase" "I") ∈ TB := tq5 63 rfl rfl
theorem lk_F_203 : (Jvm.Cond.fieldLink "RowForge" (203 : Nat) "RowForge$Transaction" "phase" "I") ∈ TB := tq5 64 rfl rfl
theorem lk_Transaction_22 : (Jvm.Cond.fieldLink "RowForge$Transaction" (22 : Nat) "RowForge$Transaction" "lastOutcome" "I") ∈ TB := tq5 65 rfl rfl
theorem lk_Engine_103 : (Jvm.Cond.fieldLink "RowForge$Engine" (103 : Nat) "RowForge$Transaction" "lastOutcome" "I") ∈ TB := tq5 66 rfl rfl
theorem lk_F_177 : (Jvm.Cond.fieldLink "RowForge" (177 : Nat) "RowForge$Transaction" "lastOutcome" "I") ∈ TB := tq5 67 rfl rfl
theorem lk_Transaction_25 : (Jvm.Cond.fieldLink "RowForge$Transaction" (25 : Nat) "RowForge$Transaction" "blocker" "I") ∈ TB := tq5 68 rfl rfl
theorem lk_Engine_121 : (Jvm.Cond.fieldLink "RowForge$Engine" (121 : Nat) "RowForge$Transaction" "blocker" "I") ∈ TB := tq5 69 rfl rfl
theorem lk_F_206 : (Jvm.Cond.fieldLink "RowForge" (206 : Nat) "RowForge$Transaction" "blocker" "I") ∈ TB := tq5 70 rfl rfl
theorem lk_Trial_52 : (Jvm.Cond.fieldLink "RowForge$Trial" (52 : Nat) "RowForge$Transaction" "writeKind" "I") ∈ TB := tq5 71 rfl rfl
theorem lk_Transaction_50 : (Jvm.Cond.fieldLink "RowForge$Transaction" (50 : Nat) "RowForge$Transaction" "writeKind" "I") ∈ TB := tq5 72 rfl rfl
theorem lk_Trial_59 : (Jvm.Cond.fieldLink "RowForge$Trial" (59 : Nat) "RowForge$Transaction" "writeTable" "I") ∈ TB := tq5 73 rfl rfl
theorem lk_Transaction_53 : (Jvm.Cond.fieldLink "RowForge$Transaction" (53 : Nat) "RowForge$Transaction" "writeTable" "I") ∈ TB := tq5 74 rfl rfl
theorem lk_Trial_62 : (Jvm.Cond.fieldLink "RowForge$Trial" (62 : Nat) "RowForge$Transaction" "writeKey" "I") ∈ TB := tq5 75 rfl rfl
theorem lk_Transaction_69 : (Jvm.Cond.fieldLink "RowForge$Transaction" (69 : Nat) "RowForge$Transaction" "writeKey" "I") ∈ TB := tq5 76 rfl rfl
theorem lk_Trial_107 : (Jvm.Cond.fieldLink "RowForge$Trial" (107 : Nat) "RowForge$Transaction" "writeColumn" "I") ∈ TB := tq5 77 rfl rfl
theorem lk_Transaction_72 : (Jvm.Cond.fieldLink "RowForge$Transaction" (72 : Nat) "RowForge$Transaction" "writeColumn" "I") ∈ TB := tq5 78 rfl rfl
theorem lk_Trial_110 : (Jvm.Cond.fieldLink "RowForge$Trial" (110 : Nat) "RowForge$Transaction" "writeValue" "I") ∈ TB := tq5 79 rfl rfl
theorem lk_Transaction_75 : (Jvm.Cond.fieldLink "RowForge$Transaction" (75 : Nat) "RowForge$Transaction" "writeValue" "I") ∈ TB := tq5 80 rfl rfl
theorem lk_Transaction_28 : (Jvm.Cond.fieldLink "RowForge$Transaction" (28 : Nat) "RowForge$Transaction" "writeRow" "[I") ∈ TB := tq5 81 rfl rfl
theorem lk_Trial_81 : (Jvm.Cond.fieldLink "RowForge$Trial" (81 : Nat) "RowForge$Transaction" "writeRow" "[I") ∈ TB := tq5 82 rfl rfl
theorem lk_Transaction_78 : (Jvm.Cond.fieldLink "RowForge$Transaction" (78 : Nat) "RowForge$Transaction" "wholeTables" "I") ∈ TB := tq5 83 rfl rfl
theorem lk_Transaction_85 : (Jvm.Cond.fieldLink "RowForge$Transaction" (85 : Nat) "RowForge$Transaction" "readCount" "I") ∈ TB := tq5 84 rfl rfl
theorem lk_Engine_198 : (Jvm.Cond.fieldLink "RowForge$Engine" (198 : Nat) "RowForge$Transaction" "readCount" "I") ∈ TB := tq5 85 rfl rfl
theorem lk_Transaction_32 : (Jvm.Cond.fieldLink "RowForge$Transaction" (32 : Nat) "RowForge$Transaction" "readTables" "[I") ∈ TB := tq5 86 rfl rfl
theorem lk_Engine_201 : (Jvm.Cond.fieldLink "RowForge$Engine" (201 : Nat) "RowForge$Transaction" "readTables" "[I") ∈ TB := tq5 87 rfl rfl
theorem lk_Transaction_35 : (Jvm.Cond.fieldLink "RowForge$Transaction" (35 : Nat) "RowForge$Transaction" "readKeys" "[I") ∈ TB := tq5 88 rfl rfl
theorem lk_Engine_204 : (Jvm.Cond.fieldLink "RowForge$Engine" (204 : Nat) "RowForge$Transaction" "readKeys" "[I") ∈ TB := tq5 89 rfl rfl
theorem lk_Transaction_96 : (Jvm.Cond.fieldLink "RowForge$Transaction" (96 : Nat) "RowForge$Transaction" "written" "I") ∈ TB := tq5 90 rfl rfl
theorem lk_Engine_179 : (Jvm.Cond.fieldLink "RowForge$Engine" (179 : Nat) "RowForge$Transaction" "written" "I") ∈ TB := tq5 91 rfl rfl
theorem lk_Transaction_38 : (Jvm.Cond.fieldLink "RowForge$Transaction" (38 : Nat) "RowForge$Transaction" "footprints" "[I") ∈ TB := tq5 92 rfl rfl
theorem lk_Engine_182 : (Jvm.Cond.fieldLink "RowForge$Engine" (182 : Nat) "RowForge$Transaction" "footprints" "[I") ∈ TB := tq5 93 rfl rfl
theorem lk_Engine_84 : (Jvm.Cond.methodLink "RowForge$Engine" (84 : Nat) ({ cls := "RowForge$Rows", name := "copyFrom", desc := "(LRowForge$Rows;)V" } : Jvm.MethodName)) ∈ TB := tq5 133 rfl rfl
theorem lk_Rows_22 : (Jvm.Cond.methodLink "RowForge$Rows" (22 : Nat) ({ cls := "java/lang/System", name := "arraycopy", desc := "(Ljava/lang/Object;ILjava/lang/Object;II)V" } : Jvm.MethodName)) ∈ TB := tq5 137 rfl rfl
theorem lk_Engine_88 : (Jvm.Cond.methodLink "RowForge$Engine" (88 : Nat) ({ cls := "java/util/ArrayList", name := "add", desc := "(Ljava/lang/Object;)Z" } : Jvm.MethodName)) ∈ TB := tq5 138 rfl rfl
theorem lk_java_util_ArrayList_131 : (Jvm.Cond.methodLink "java/util/ArrayList" (131 : Nat) ({ cls := "java/util/ArrayList", name := "add", desc := "(Ljava/lang/Object;[Ljava/lang/Object;I)V" } : Jvm.MethodName)) ∈ TB := tq5 142 rfl rfl
theorem lk_java_util_ArrayList_129 : (Jvm.Cond.methodLink "java/util/ArrayList" (129 : Nat) ({ cls := "java/util/ArrayList", name := "grow", desc := "()[Ljava/lang/Object;" } : Jvm.MethodName)) ∈ TB := tq5 146 rfl rfl
theorem lk_java_util_ArrayList_69 : (Jvm.Cond.methodLink "java/util/ArrayList" (69 : Nat) ({ cls := "java/util/ArrayList", name := "grow", desc := "(I)[Ljava/lang/Object;" } : Jvm.MethodName)) ∈ TB := tq5 150 rfl rfl
theorem lk_java_util_ArrayList_73 : (Jvm.Cond.methodLink "java/util/ArrayList" (73 : Nat) ({ cls := "jdk/internal/util/ArraysSupport", name := "newLength", desc := "(III)I" } : Jvm.MethodName)) ∈ TB := tq5 154 rfl rfl
theorem lk_java_util_ArrayList_66 : (Jvm.Cond.methodLink "java/util/ArrayList" (66 : Nat) ({ cls := "java/util/Arrays", name := "copyOf", desc := "([Ljava/lang/Object;I)[Ljava/lang/Object;" } : Jvm.MethodName)) ∈ TB := tq5 155 rfl rfl
theorem lk_java_util_Arrays_86 : (Jvm.Cond.methodLink "java/util/Arrays" (86 : Nat) ({ cls := "java/lang/Object", name := "getClass", desc := "()Ljava/lang/Class;" } : Jvm.MethodName)) ∈ TB := tq5 158 rfl rfl
theorem lk_java_util_Arrays_300 : (Jvm.Cond.methodLink "java/util/Arrays" (300 : Nat) ({ cls := "java/util/Arrays", name := "copyOf", desc := "([Ljava/lang/Object;ILjava/lang/Class;)[Ljava/lang/Object;" } : Jvm.MethodName)) ∈ TB := tq5 182 rfl rfl
theorem lk_java_util_Arrays_110 : (Jvm.Cond.classLink "java/util/Arrays" (110 : Nat) "[Ljava/lang/Object;") ∈ TB := tq5 185 rfl rfl
theorem lk_java_util_Arrays_2 : (Jvm.Cond.classLink "java/util/Arrays" (2 : Nat) "java/lang/Object") ∈ TB := tq5 187 rfl rfl
theorem lk_java_util_ArrayList_79 : (Jvm.Cond.methodLink "java/util/ArrayList" (79 : Nat) ({ cls := "java/lang/Math", name := "max", desc := "(II)I" } : Jvm.MethodName)) ∈ TB := tq5 188 rfl rfl
theorem lk_java_util_ArrayList_7 : (Jvm.Cond.classLink "java/util/ArrayList" (7 : Nat) "java/lang/Object") ∈ TB := tq5 189 rfl rfl
theorem lk_Law_178 : (Jvm.Cond.methodLink "RowForgeLaw" (178 : Nat) ({ cls := "RowForgeLaw", name := "value", desc := "(LRowForge;I[J)I" } : Jvm.MethodName)) ∈ TB := tq5 190 rfl rfl
theorem lk_Law_34 : (Jvm.Cond.methodLink "RowForgeLaw" (34 : Nat) ({ cls := "RowForge", name := "value", desc := "(I)I" } : Jvm.MethodName)) ∈ TB := tq5 193 rfl rfl
theorem lk_Law_181 : (Jvm.Cond.methodLink "RowForgeLaw" (181 : Nat) ({ cls := "RowForgeLaw", name := "insert", desc := "(LRowForge;II[J)I" } : Jvm.MethodName)) ∈ TB := tq5 197 rfl rfl
theorem lk_Law_37 : (Jvm.Cond.methodLink "RowForgeLaw" (37 : Nat) ({ cls := "RowForge", name := "insert", desc := "(II)I" } : Jvm.MethodName)) ∈ TB := tq5 200 rfl rfl
theorem lk_F_157 : (Jvm.Cond.methodLink "RowForge" (157 : Nat) ({ cls := "RowForge$Engine", name := "hasTransaction", desc := "(I)Z" } : Jvm.MethodName)) ∈ TB := tq5 204 rfl rfl
theorem lk_F_160 : (Jvm.Cond.methodLink "RowForge" (160 : Nat) ({ cls := "RowForge", name := "activeTransaction", desc := "(I)LRowForge$Transaction;" } : Jvm.MethodName)) ∈ TB := tq5 208 rfl rfl
theorem lk_F_194 : (Jvm.Cond.methodLink "RowForge" (194 : Nat) ({ cls := "RowForge", name := "transactionAt", desc := "(I)LRowForge$Transaction;" } : Jvm.MethodName)) ∈ TB := tq5 212 rfl rfl
theorem lk_F_168 : (Jvm.Cond.classLink "RowForge" (168 : Nat) "RowForge$Transaction") ∈ TB := tq5 216 rfl rfl
theorem lk_F_167 : (Jvm.Cond.methodLink "RowForge" (167 : Nat) ({ cls := "RowForge$Transaction", name := "planInsert", desc := "(I[II)V" } : Jvm.MethodName)) ∈ TB := tq5 217 rfl rfl
theorem lk_Transaction_56 : (Jvm.Cond.constant "RowForge$Transaction" (56 : Nat) (-2147483648 : Int32)) ∈ TB := tq5 221 rfl rfl
theorem lk_Transaction_57 : (Jvm.Cond.methodLink "RowForge$Transaction" (57 : Nat) ({ cls := "java/util/Arrays", name := "fill", desc := "([II)V" } : Jvm.MethodName)) ∈ TB := tq5 222 rfl rfl
theorem lk_Transaction_63 : (Jvm.Cond.methodLink "RowForge$Transaction" (63 : Nat) ({ cls := "java/lang/System", name := "arraycopy", desc := "(Ljava/lang/Object;ILjava/lang/Object;II)V" } : Jvm.MethodName)) ∈ TB := tq5 223 rfl rfl
theorem lk_F_173 : (Jvm.Cond.methodLink "RowForge" (173 : Nat) ({ cls := "RowForge$Engine", name := "settle", desc := "(LRowForge$Transaction;)V" } : Jvm.MethodName)) ∈ TB := tq5 224 rfl rfl
theorem lk_Engine_165 : (Jvm.Cond.methodLink "RowForge$Engine" (165 : Nat) ({ cls := "RowForge$Engine", name := "lowestFreed", desc := "()LRowForge$Transaction;" } : Jvm.MethodName)) ∈ TB := tq5 228 rfl rfl
theorem lk_Engine_144 : (Jvm.Cond.methodLink "RowForge$Engine" (144 : Nat) ({ cls := "RowForge$Engine", name := "hasTransaction", desc := "(I)Z" } : Jvm.MethodName)) ∈ TB := tq5 232 rfl rfl
theorem lk_Engine_169 : (Jvm.Cond.methodLink "RowForge$Engine" (169 : Nat) ({ cls := "RowForge$Engine", name := "attempt", desc := "(LRowForge$Transaction;)V" } : Jvm.MethodName)) ∈ TB := tq5 233 rfl rfl
theorem lk_Engine_99 : (Jvm.Cond.methodLink "RowForge$Engine" (99 : Nat) ({ cls := "RowForge$Trial", name := "allows", desc := "(LRowForge$Transaction;)Z" } : Jvm.MethodName)) ∈ TB := tq5 237 rfl rfl
theorem lk_Trial_44 : (Jvm.Cond.methodLink "RowForge$Trial" (44 : Nat) ({ cls := "RowForge$Rows", name := "copyFrom", desc := "(LRowForge$Rows;)V" } : Jvm.MethodName)) ∈ TB := tq6 1 rfl rfl
theorem lk_Trial_55 : (Jvm.Cond.methodLink "RowForge$Trial" (55 : Nat) ({ cls := "RowForge$Trial", name := "allowsInsert", desc := "(LRowForge$Transaction;)Z" } : Jvm.MethodName)) ∈ TB := tq6 2 rfl rfl
theorem lk_Trial_75 : (Jvm.Cond.constant "RowForge$Trial" (75 : Nat) (-2147483648 : Int32)) ∈ TB := tq6 6 rfl rfl
theorem lk_Trial_65 : (Jvm.Cond.methodLink "RowForge$Trial" (65 : Nat) ({ cls := "RowForge$Transaction", name := "readKey", desc := "(II)V" } : Jvm.MethodName)) ∈ TB := tq6 7 rfl rfl
theorem lk_Transaction_81 : (Jvm.Cond.methodLink "RowForge$Transaction" (81 : Nat) ({ cls := "RowForge$Transaction", name := "hasReadKey", desc := "(II)Z" } : Jvm.MethodName)) ∈ TB := tq6 11 rfl rfl
theorem lk_Transaction_88 : (Jvm.Cond.methodLink "RowForge$Transaction" (88 : Nat) ({ cls := "java/util/Arrays", name := "copyOf", desc := "([II)[I" } : Jvm.MethodName)) ∈ TB := tq6 15 rfl rfl
theorem lk_Trial_84 : (Jvm.Cond.methodLink "RowForge$Trial" (84 : Nat) ({ cls := "RowForge$Trial", name := "findsReferred", desc := "(LRowForge$Transaction;II)Z" } : Jvm.MethodName)) ∈ TB := tq6 16 rfl rfl
theorem lk_Trial_123 : (Jvm.Cond.methodLink "RowForge$Trial" (123 : Nat) ({ cls := "RowForge$Schema", name := "target", desc := "(II)I" } : Jvm.MethodName)) ∈ TB := tq6 20 rfl rfl
theorem lk_Trial_92 : (Jvm.Cond.methodLink "RowForge$Trial" (92 : Nat) ({ cls := "RowForge$Rows", name := "find", desc := "(II)I" } : Jvm.MethodName)) ∈ TB := tq6 21 rfl rfl
theorem lk_Rows_28 : (Jvm.Cond.methodLink "RowForge$Rows" (28 : Nat) ({ cls := "RowForge$Rows", name := "firstWith", desc := "(II)I" } : Jvm.MethodName)) ∈ TB := tq6 25 rfl rfl
theorem lk_Trial_88 : (Jvm.Cond.methodLink "RowForge$Trial" (88 : Nat) ({ cls := "RowForge$Rows", name := "findFree", desc := "(I)I" } : Jvm.MethodName)) ∈ TB := tq6 29 rfl rfl
theorem lk_Trial_96 : (Jvm.Cond.methodLink "RowForge$Trial" (96 : Nat) ({ cls := "RowForge$Schema", name := "passesChecks", desc := "(I[II)Z" } : Jvm.MethodName)) ∈ TB := tq6 33 rfl rfl
theorem lk_F_363 : (Jvm.Cond.methodLink "RowForge" (363 : Nat) ({ cls := "java/lang/Integer", name := "compare", desc := "(II)I" } : Jvm.MethodName)) ∈ TB := tq6 40 rfl rfl
theorem lk_Trial_100 : (Jvm.Cond.methodLink "RowForge$Trial" (100 : Nat) ({ cls := "RowForge$Rows", name := "put", desc := "(I[II)V" } : Jvm.MethodName)) ∈ TB := tq6 43 rfl rfl
theorem lk_Rows_39 : (Jvm.Cond.methodLink "RowForge$Rows" (39 : Nat) ({ cls := "RowForge$Rows", name := "startOf", desc := "(I)I" } : Jvm.MethodName)) ∈ TB := tq6 47 rfl rfl
theorem lk_Trial_104 : (Jvm.Cond.methodLink "RowForge$Trial" (104 : Nat) ({ cls := "RowForge$Trial", name := "touch", desc := "(II)V" } : Jvm.MethodName)) ∈ TB := tq6 48 rfl rfl
theorem lk_Trial_69 : (Jvm.Cond.methodLink "RowForge$Trial" (69 : Nat) ({ cls := "RowForge$Trial", name := "allowsUpdate", desc := "(LRowForge$Transaction;)Z" } : Jvm.MethodName)) ∈ TB := tq6 52 rfl rfl
theorem lk_Trial_113 : (Jvm.Cond.methodLink "RowForge$Trial" (113 : Nat) ({ cls := "RowForge$Trial", name := "seenPlace", desc := "(LRowForge$Transaction;)I" } : Jvm.MethodName)) ∈ TB := tq6 56 rfl rfl
theorem lk_Trial_120 : (Jvm.Cond.methodLink "RowForge$Trial" (120 : Nat) ({ cls := "RowForge$Rows", name := "startOf", desc := "(I)I" } : Jvm.MethodName)) ∈ TB := tq6 60 rfl rfl
theorem lk_Trial_129 : (Jvm.Cond.methodLink "RowForge$Trial" (129 : Nat) ({ cls := "RowForge$Schema", name := "isSeen", desc := "(II[II)Z" } : Jvm.MethodName)) ∈ TB := tq6 61 rfl rfl
theorem lk_Trial_72 : (Jvm.Cond.methodLink "RowForge$Trial" (72 : Nat) ({ cls := "RowForge$Trial", name := "allowsDelete", desc := "(LRowForge$Transaction;)Z" } : Jvm.MethodName)) ∈ TB := tq6 65 rfl rfl
theorem lk_Trial_133 : (Jvm.Cond.methodLink "RowForge$Trial" (133 : Nat) ({ cls := "RowForge$Trial", name := "findAllReferred", desc := "(LRowForge$Rows;)V" } : Jvm.MethodName)) ∈ TB := tq6 69 rfl rfl
theorem lk_Trial_156 : (Jvm.Cond.methodLink "RowForge$Trial" (156 : Nat) ({ cls := "RowForge$Trial", name := "targetSlot", desc := "(I)I" } : Jvm.MethodName)) ∈ TB := tq6 73 rfl rfl
theorem lk_Trial_136 : (Jvm.Cond.methodLink "RowForge$Trial" (136 : Nat) ({ cls := "RowForge$Trial", name := "spreadCascades", desc := "()V" } : Jvm.MethodName)) ∈ TB := tq6 76 rfl rfl
theorem lk_Trial_162 : (Jvm.Cond.methodLink "RowForge$Trial" (162 : Nat) ({ cls := "RowForge$Trial", name := "refersToGone", desc := "(II)Z" } : Jvm.MethodName)) ∈ TB := tq6 80 rfl rfl
theorem lk_Trial_139 : (Jvm.Cond.methodLink "RowForge$Trial" (139 : Nat) ({ cls := "RowForge$Trial", name := "readReferring", desc := "(LRowForge$Transaction;)V" } : Jvm.MethodName)) ∈ TB := tq6 84 rfl rfl
theorem lk_Trial_168 : (Jvm.Cond.methodLink "RowForge$Trial" (168 : Nat) ({ cls := "RowForge$Schema", name := "refersTo", desc := "(II)Z" } : Jvm.MethodName)) ∈ TB := tq6 88 rfl rfl
theorem lk_Schema_47 : (Jvm.Cond.methodLink "RowForge$Schema" (47 : Nat) ({ cls := "RowForge$Schema", name := "target", desc := "(II)I" } : Jvm.MethodName)) ∈ TB := tq6 92 rfl rfl
theorem lk_Trial_171 : (Jvm.Cond.methodLink "RowForge$Trial" (171 : Nat) ({ cls := "RowForge$Transaction", name := "readWhole", desc := "(I)V" } : Jvm.MethodName)) ∈ TB := tq6 93 rfl rfl
theorem lk_Trial_143 : (Jvm.Cond.methodLink "RowForge$Trial" (143 : Nat) ({ cls := "RowForge$Trial", name := "isRestricted", desc := "()Z" } : Jvm.MethodName)) ∈ TB := tq6 97 rfl rfl
theorem lk_Trial_147 : (Jvm.Cond.methodLink "RowForge$Trial" (147 : Nat) ({ cls := "RowForge$Trial", name := "changeRows", desc := "()V" } : Jvm.MethodName)) ∈ TB := tq6 101 rfl rfl
theorem lk_Trial_175 : (Jvm.Cond.methodLink "RowForge$Trial" (175 : Nat) ({ cls := "RowForge$Rows", name := "remove", desc := "(I)V" } : Jvm.MethodName)) ∈ TB := tq6 105 rfl rfl
theorem lk_Rows_42 : (Jvm.Cond.methodLink "RowForge$Rows" (42 : Nat) ({ cls := "java/util/Arrays", name := "fill", desc := "([IIII)V" } : Jvm.MethodName)) ∈ TB := tq6 109 rfl rfl
theorem lk_Trial_150 : (Jvm.Cond.methodLink "RowForge$Trial" (150 : Nat) ({ cls := "RowForge$Trial", name := "touchChanged", desc := "(LRowForge$Rows;)V" } : Jvm.MethodName)) ∈ TB := tq6 110 rfl rfl
theorem lk_Trial_178 : (Jvm.Cond.methodLink "RowForge$Trial" (178 : Nat) ({ cls := "RowForge$Rows", name := "keyAt", desc := "(I)I" } : Jvm.MethodName)) ∈ TB := tq6 114 rfl rfl
theorem lk_Engine_106 : (Jvm.Cond.methodLink "RowForge$Engine" (106 : Nat) ({ cls := "RowForge$Engine", name := "firstOtherWriter", desc := "(I)I" } : Jvm.MethodName)) ∈ TB := tq6 115 rfl rfl
theorem lk_Engine_140 : (Jvm.Cond.methodLink "RowForge$Engine" (140 : Nat) ({ cls := "RowForge$Engine", name := "footprint", desc := "(II)I" } : Jvm.MethodName)) ∈ TB := tq6 119 rfl rfl
theorem lk_Engine_110 : (Jvm.Cond.methodLink "RowForge$Engine" (110 : Nat) ({ cls := "RowForge$Engine", name := "endsWaitingFor", desc := "(II)Z" } : Jvm.MethodName)) ∈ TB := tq6 123 rfl rfl
theorem lk_Engine_114 : (Jvm.Cond.methodLink "RowForge$Engine" (114 : Nat) ({ cls := "RowForge$Engine", name := "rollBack", desc := "(LRowForge$Transaction;)I" } : Jvm.MethodName)) ∈ TB := tq6 127 rfl rfl
theorem lk_Engine_172 : (Jvm.Cond.methodLink "RowForge$Engine" (172 : Nat) ({ cls := "RowForge$Log", name := "undoWrites", desc := "(I)I" } : Jvm.MethodName)) ∈ TB := tq6 131 rfl rfl
theorem lk_Log_69 : (Jvm.Cond.methodLink "RowForge$Log" (69 : Nat) ({ cls := "RowForge$Log", name := "countUndone", desc := "(I)I" } : Jvm.MethodName)) ∈ TB := tq6 135 rfl rfl
theorem lk_Log_63 : (Jvm.Cond.methodLink "RowForge$Log" (63 : Nat) ({ cls := "RowForge$Log", name := "kindOf", desc := "(I)I" } : Jvm.MethodName)) ∈ TB := tq6 139 rfl rfl
theorem lk_Log_66 : (Jvm.Cond.methodLink "RowForge$Log" (66 : Nat) ({ cls := "RowForge$Log", name := "writerOf", desc := "(I)I" } : Jvm.MethodName)) ∈ TB := tq6 143 rfl rfl
theorem lk_Log_72 : (Jvm.Cond.methodLink "RowForge$Log" (72 : Nat) ({ cls := "RowForge$Log", name := "tableOf", desc := "(I)I" } : Jvm.MethodName)) ∈ TB := tq6 147 rfl rfl
theorem lk_Log_75 : (Jvm.Cond.methodLink "RowForge$Log" (75 : Nat) ({ cls := "RowForge$Log", name := "keyOf", desc := "(I)I" } : Jvm.MethodName)) ∈ TB := tq6 151 rfl rfl
theorem lk_Log_37 : (Jvm.Cond.methodLink "RowForge$Log" (37 : Nat) ({ cls := "RowForge$Log", name := "add", desc := "(IIII)V" } : Jvm.MethodName)) ∈ TB := tq6 155 rfl rfl
theorem lk_Engine_175 : (Jvm.Cond.methodLink "RowForge$Engine" (175 : Nat) ({ cls := "RowForge$Engine", name := "finish", desc := "(LRowForge$Transaction;I)V" } : Jvm.MethodName)) ∈ TB := tq6 156 rfl rfl
theorem lk_Engine_124 : (Jvm.Cond.methodLink "RowForge$Engine" (124 : Nat) ({ cls := "RowForge$Engine", name := "isOvertaken", desc := "(LRowForge$Transaction;)Z" } : Jvm.MethodName)) ∈ TB := tq6 160 rfl rfl
theorem lk_Engine_147 : (Jvm.Cond.methodLink "RowForge$Engine" (147 : Nat) ({ cls := "RowForge$Engine", name := "isCommittedSince", desc := "(LRowForge$Transaction;II)Z" } : Jvm.MethodName)) ∈ TB := tq6 164 rfl rfl
theorem lk_Engine_127 : (Jvm.Cond.methodLink "RowForge$Engine" (127 : Nat) ({ cls := "RowForge$Engine", name := "carryOut", desc := "(LRowForge$Transaction;)V" } : Jvm.MethodName)) ∈ TB := tq6 168 rfl rfl
theorem lk_Engine_157 : (Jvm.Cond.methodLink "RowForge$Engine" (157 : Nat) ({ cls := "RowForge$Transaction", name := "noteFootprint", desc := "(I)V" } : Jvm.MethodName)) ∈ TB := tq6 172 rfl rfl
theorem lk_Engine_161 : (Jvm.Cond.methodLink "RowForge$Engine" (161 : Nat) ({ cls := "RowForge$Log", name := "addWrite", desc := "(IIILRowForge$Rows;)V" } : Jvm.MethodName)) ∈ TB := tq6 176 rfl rfl
theorem lk_Log_41 : (Jvm.Cond.methodLink "RowForge$Log" (41 : Nat) ({ cls := "RowForge$Rows", name := "find", desc := "(II)I" } : Jvm.MethodName)) ∈ TB := tq6 180 rfl rfl
theorem lk_Log_50 : (Jvm.Cond.methodLink "RowForge$Log" (50 : Nat) ({ cls := "RowForge$Rows", name := "startOf", desc := "(I)I" } : Jvm.MethodName)) ∈ TB := tq6 181 rfl rfl
theorem lk_Log_54 : (Jvm.Cond.methodLink "RowForge$Log" (54 : Nat) ({ cls := "java/lang/System", name := "arraycopy", desc := "(Ljava/lang/Object;ILjava/lang/Object;II)V" } : Jvm.MethodName)) ∈ TB := tq6 182 rfl rfl
theorem lk_Law_185 : (Jvm.Cond.methodLink "RowForgeLaw" (185 : Nat) ({ cls := "RowForgeLaw", name := "update", desc := "(LRowForge;IIIII[J)I" } : Jvm.MethodName)) ∈ TB := tq6 183 rfl rfl
theorem lk_Law_41 : (Jvm.Cond.methodLink "RowForgeLaw" (41 : Nat) ({ cls := "RowForge", name := "update", desc := "(IIIII)I" } : Jvm.MethodName)) ∈ TB := tq6 186 rfl rfl
theorem lk_F_180 : (Jvm.Cond.methodLink "RowForge" (180 : Nat) ({ cls := "RowForge$Transaction", name := "planUpdate", desc := "(IIII)V" } : Jvm.MethodName)) ∈ TB := tq6 190 rfl rfl
theorem lk_Law_188 : (Jvm.Cond.methodLink "RowForgeLaw" (188 : Nat) ({ cls := "RowForgeLaw", name := "delete", desc := "(LRowForge;III[J)I" } : Jvm.MethodName)) ∈ TB := tq6 194 rfl rfl
theorem lk_Law_44 : (Jvm.Cond.methodLink "RowForgeLaw" (44 : Nat) ({ cls := "RowForge", name := "delete", desc := "(III)I" } : Jvm.MethodName)) ∈ TB := tq6 197 rfl rfl
theorem lk_F_183 : (Jvm.Cond.methodLink "RowForge" (183 : Nat) ({ cls := "RowForge$Transaction", name := "planDelete", desc := "(II)V" } : Jvm.MethodName)) ∈ TB := tq6 201 rfl rfl
theorem lk_Law_192 : (Jvm.Cond.methodLink "RowForgeLaw" (192 : Nat) ({ cls := "RowForgeLaw", name := "commit", desc := "(LRowForge;I[J)I" } : Jvm.MethodName)) ∈ TB := tq6 205 rfl rfl
theorem lk_Law_48 : (Jvm.Cond.methodLink "RowForgeLaw" (48 : Nat) ({ cls := "RowForge", name := "commit", desc := "(I)I" } : Jvm.MethodName)) ∈ TB := tq6 208 rfl rfl
theorem lk_F_187 : (Jvm.Cond.methodLink "RowForge" (187 : Nat) ({ cls := "RowForge$Engine", name := "tryCommit", desc := "(LRowForge$Transaction;)I" } : Jvm.MethodName)) ∈ TB := tq6 212 rfl rfl
theorem lk_Engine_185 : (Jvm.Cond.methodLink "RowForge$Engine" (185 : Nat) ({ cls := "RowForge$Engine", name := "hasStaleRead", desc := "(LRowForge$Transaction;)Z" } : Jvm.MethodName)) ∈ TB := tq6 216 rfl rfl
theorem lk_Engine_195 : (Jvm.Cond.methodLink "RowForge$Engine" (195 : Nat) ({ cls := "RowForge$Transaction", name := "hasReadWhole", desc := "(I)Z" } : Jvm.MethodName)) ∈ TB := tq6 220 rfl rfl
theorem lk_Engine_188 : (Jvm.Cond.methodLink "RowForge$Engine" (188 : Nat) ({ cls := "RowForge$Engine", name := "overfills", desc := "(ILRowForge$Rows;)Z" } : Jvm.MethodName)) ∈ TB := tq6 224 rfl rfl
theorem lk_Engine_207 : (Jvm.Cond.methodLink "RowForge$Engine" (207 : Nat) ({ cls := "RowForge$Rows", name := "keyAt", desc := "(I)I" } : Jvm.MethodName)) ∈ TB := tq6 228 rfl rfl
theorem lk_Engine_210 : (Jvm.Cond.constant "RowForge$Engine" (210 : Nat) (-2147483648 : Int32)) ∈ TB := tq6 229 rfl rfl
theorem lk_Engine_211 : (Jvm.Cond.methodLink "RowForge$Engine" (211 : Nat) ({ cls := "RowForge$Engine", name := "isWrittenBy", desc := "(III)Z" } : Jvm.MethodName)) ∈ TB := tq6 230 rfl rfl
theorem lk_Engine_192 : (Jvm.Cond.methodLink "RowForge$Engine" (192 : Nat) ({ cls := "RowForge$Engine", name := "store", desc := "(LRowForge$Transaction;)V" } : Jvm.MethodName)) ∈ TB := tq6 234 rfl rfl
theorem lk_Engine_215 : (Jvm.Cond.methodLink "RowForge$Engine" (215 : Nat) ({ cls := "RowForge$Rows", name := "remove", desc := "(I)V" } : Jvm.MethodName)) ∈ TB := tq6 238 rfl rfl
theorem lk_Engine_218 : (Jvm.Cond.methodLink "RowForge$Engine" (218 : Nat) ({ cls := "RowForge$Rows", name := "findFree", desc := "(I)I" } : Jvm.MethodName)) ∈ TB := tq6 239 rfl rfl
theorem lk_Engine_224 : (Jvm.Cond.methodLink "RowForge$Engine" (224 : Nat) ({ cls := "RowForge$Rows", name := "startOf", desc := "(I)I" } : Jvm.MethodName)) ∈ TB := tq7 0 rfl rfl
theorem lk_Engine_227 : (Jvm.Cond.methodLink "RowForge$Engine" (227 : Nat) ({ cls := "RowForge$Rows", name := "put", desc := "(I[II)V" } : Jvm.MethodName)) ∈ TB := tq7 1 rfl rfl
theorem lk_Engine_231 : (Jvm.Cond.methodLink "RowForge$Engine" (231 : Nat) ({ cls := "RowForge$Engine", name := "stampWrites", desc := "(LRowForge$Transaction;)V" } : Jvm.MethodName)) ∈ TB := tq7 2 rfl rfl
theorem lk_Engine_234 : (Jvm.Cond.methodLink "RowForge$Engine" (234 : Nat) ({ cls := "RowForge$Log", name := "add", desc := "(IIII)V" } : Jvm.MethodName)) ∈ TB := tq7 6 rfl rfl
theorem lk_Engine_237 : (Jvm.Cond.methodLink "RowForge$Engine" (237 : Nat) ({ cls := "RowForge$Log", name := "flush", desc := "()V" } : Jvm.MethodName)) ∈ TB := tq7 7 rfl rfl
theorem lk_F_191 : (Jvm.Cond.methodLink "RowForge" (191 : Nat) ({ cls := "RowForge", name := "refreshViews", desc := "()V" } : Jvm.MethodName)) ∈ TB := tq7 8 rfl rfl
theorem lk_F_318 : (Jvm.Cond.methodLink "RowForge" (318 : Nat) ({ cls := "RowForge$Evaluator", name := "evaluate", desc := "(LRowForge$Query;LRowForge$Rows;I)LRowForge$Relation;" } : Jvm.MethodName)) ∈ TB := tq7 12 rfl rfl
theorem lk_Evaluator_46 : (Jvm.Cond.methodLink "RowForge$Evaluator" (46 : Nat) ({ cls := "RowForge$Evaluator", name := "step", desc := "(LRowForge$Query;ILRowForge$Rows;I)V" } : Jvm.MethodName)) ∈ TB := tq7 16 rfl rfl
theorem lk_Evaluator_57 : (Jvm.Cond.methodLink "RowForge$Evaluator" (57 : Nat) ({ cls := "RowForge$Relation", name := "reset", desc := "(I)V" } : Jvm.MethodName)) ∈ TB := tq7 20 rfl rfl
theorem lk_Evaluator_74 : (Jvm.Cond.methodLink "RowForge$Evaluator" (74 : Nat) ({ cls := "RowForge$Query", name := "parameter", desc := "(II)I" } : Jvm.MethodName)) ∈ TB := tq7 24 rfl rfl
theorem lk_Evaluator_78 : (Jvm.Cond.methodLink "RowForge$Evaluator" (78 : Nat) ({ cls := "RowForge$Evaluator", name := "scanInto", desc := "(LRowForge$Relation;ILRowForge$Rows;I)V" } : Jvm.MethodName)) ∈ TB := tq7 28 rfl rfl
theorem lk_Evaluator_94 : (Jvm.Cond.methodLink "RowForge$Evaluator" (94 : Nat) ({ cls := "RowForge$Rows", name := "startOf", desc := "(I)I" } : Jvm.MethodName)) ∈ TB := tq7 32 rfl rfl
theorem lk_Evaluator_100 : (Jvm.Cond.methodLink "RowForge$Evaluator" (100 : Nat) ({ cls := "RowForge$Rows", name := "keyAt", desc := "(I)I" } : Jvm.MethodName)) ∈ TB := tq7 33 rfl rfl
theorem lk_Evaluator_103 : (Jvm.Cond.constant "RowForge$Evaluator" (103 : Nat) (-2147483648 : Int32)) ∈ TB := tq7 34 rfl rfl
theorem lk_Evaluator_107 : (Jvm.Cond.methodLink "RowForge$Evaluator" (107 : Nat) ({ cls := "RowForge$Schema", name := "isSeen", desc := "(II[II)Z" } : Jvm.MethodName)) ∈ TB := tq7 35 rfl rfl
theorem lk_Evaluator_113 : (Jvm.Cond.methodLink "RowForge$Evaluator" (113 : Nat) ({ cls := "RowForge$Relation", name := "add", desc := "([II)V" } : Jvm.MethodName)) ∈ TB := tq7 36 rfl rfl
theorem lk_Relation_22 : (Jvm.Cond.methodLink "RowForge$Relation" (22 : Nat) ({ cls := "java/lang/System", name := "arraycopy", desc := "(Ljava/lang/Object;ILjava/lang/Object;II)V" } : Jvm.MethodName)) ∈ TB := tq7 40 rfl rfl
theorem lk_Evaluator_82 : (Jvm.Cond.methodLink "RowForge$Evaluator" (82 : Nat) ({ cls := "RowForge$Evaluator", name := "changeInto", desc := "(LRowForge$Relation;LRowForge$Relation;LRowForge$Query;I)V" } : Jvm.MethodName)) ∈ TB := tq7 41 rfl rfl
theorem lk_Evaluator_117 : (Jvm.Cond.methodLink "RowForge$Evaluator" (117 : Nat) ({ cls := "RowForge$Evaluator", name := "filterInto", desc := "(LRowForge$Relation;LRowForge$Relation;IIIZ)V" } : Jvm.MethodName)) ∈ TB := tq7 45 rfl rfl
theorem lk_Evaluator_135 : (Jvm.Cond.methodLink "RowForge$Evaluator" (135 : Nat) ({ cls := "RowForge$Relation", name := "cell", desc := "(II)I" } : Jvm.MethodName)) ∈ TB := tq7 49 rfl rfl
theorem lk_Evaluator_64 : (Jvm.Cond.methodLink "RowForge$Evaluator" (64 : Nat) ({ cls := "RowForge$Relation", name := "addRow", desc := "(LRowForge$Relation;I)V" } : Jvm.MethodName)) ∈ TB := tq7 54 rfl rfl
theorem lk_Relation_28 : (Jvm.Cond.methodLink "RowForge$Relation" (28 : Nat) ({ cls := "RowForge$Relation", name := "add", desc := "([II)V" } : Jvm.MethodName)) ∈ TB := tq7 58 rfl rfl
theorem lk_Evaluator_121 : (Jvm.Cond.methodLink "RowForge$Evaluator" (121 : Nat) ({ cls := "RowForge$Evaluator", name := "pairInto", desc := "(LRowForge$Relation;LRowForge$Relation;IIIZ)V" } : Jvm.MethodName)) ∈ TB := tq7 59 rfl rfl
theorem lk_Evaluator_124 : (Jvm.Cond.methodLink "RowForge$Evaluator" (124 : Nat) ({ cls := "RowForge$Evaluator", name := "ratioInto", desc := "(LRowForge$Relation;LRowForge$Relation;III)V" } : Jvm.MethodName)) ∈ TB := tq7 63 rfl rfl
theorem lk_Evaluator_128 : (Jvm.Cond.methodLink "RowForge$Evaluator" (128 : Nat) ({ cls := "RowForge$Evaluator", name := "keepInto", desc := "(LRowForge$Relation;LRowForge$Relation;I)V" } : Jvm.MethodName)) ∈ TB := tq7 67 rfl rfl
theorem lk_Evaluator_132 : (Jvm.Cond.methodLink "RowForge$Evaluator" (132 : Nat) ({ cls := "RowForge$Evaluator", name := "groupInto", desc := "(LRowForge$Relation;LRowForge$Relation;III)V" } : Jvm.MethodName)) ∈ TB := tq7 71 rfl rfl
theorem lk_Evaluator_143 : (Jvm.Cond.methodLink "RowForge$Evaluator" (143 : Nat) ({ cls := "RowForge$Evaluator", name := "addGroup", desc := "(LRowForge$Relation;II)V" } : Jvm.MethodName)) ∈ TB := tq7 75 rfl rfl
theorem lk_Evaluator_147 : (Jvm.Cond.methodLink "RowForge$Evaluator" (147 : Nat) ({ cls := "RowForge$Evaluator", name := "groupOf", desc := "(LRowForge$Relation;I)I" } : Jvm.MethodName)) ∈ TB := tq7 78 rfl rfl
theorem lk_Evaluator_151 : (Jvm.Cond.methodLink "RowForge$Evaluator" (151 : Nat) ({ cls := "RowForge$Evaluator", name := "gathered", desc := "(III)I" } : Jvm.MethodName)) ∈ TB := tq7 81 rfl rfl
theorem lk_Evaluator_154 : (Jvm.Cond.methodLink "RowForge$Evaluator" (154 : Nat) ({ cls := "java/lang/Math", name := "min", desc := "(II)I" } : Jvm.MethodName)) ∈ TB := tq7 84 rfl rfl
theorem lk_Evaluator_159 : (Jvm.Cond.methodLink "RowForge$Evaluator" (159 : Nat) ({ cls := "java/lang/Math", name := "max", desc := "(II)I" } : Jvm.MethodName)) ∈ TB := tq7 85 rfl rfl
theorem lk_Evaluator_86 : (Jvm.Cond.methodLink "RowForge$Evaluator" (86 : Nat) ({ cls := "RowForge$Evaluator", name := "joinInto", desc := "(LRowForge$Relation;LRowForge$Relation;LRowForge$Relation;LRowForge$Query;I)V" } : Jvm.MethodName)) ∈ TB := tq7 86 rfl rfl
theorem lk_Evaluator_162 : (Jvm.Cond.methodLink "RowForge$Evaluator" (162 : Nat) ({ cls := "RowForge$Relation", name := "addPair", desc := "(LRowForge$Relation;ILRowForge$Relation;I)V" } : Jvm.MethodName)) ∈ TB := tq7 90 rfl rfl
theorem lk_Relation_32 : (Jvm.Cond.methodLink "RowForge$Relation" (32 : Nat) ({ cls := "RowForge$Relation", name := "fillPart", desc := "(ILRowForge$Relation;I)V" } : Jvm.MethodName)) ∈ TB := tq7 94 rfl rfl
theorem lk_Relation_36 : (Jvm.Cond.constant "RowForge$Relation" (36 : Nat) (-2147483648 : Int32)) ∈ TB := tq7 98 rfl rfl
theorem lk_Relation_37 : (Jvm.Cond.methodLink "RowForge$Relation" (37 : Nat) ({ cls := "java/util/Arrays", name := "fill", desc := "([IIII)V" } : Jvm.MethodName)) ∈ TB := tq7 99 rfl rfl
theorem lk_Evaluator_166 : (Jvm.Cond.methodLink "RowForge$Evaluator" (166 : Nat) ({ cls := "RowForge$Evaluator", name := "addLeft", desc := "(LRowForge$Relation;LRowForge$Relation;ILRowForge$Relation;IZ)V" } : Jvm.MethodName)) ∈ TB := tq7 100 rfl rfl
theorem lk_Evaluator_90 : (Jvm.Cond.methodLink "RowForge$Evaluator" (90 : Nat) ({ cls := "RowForge$Evaluator", name := "combineInto", desc := "(LRowForge$Relation;LRowForge$Relation;LRowForge$Relation;I)V" } : Jvm.MethodName)) ∈ TB := tq7 103 rfl rfl
theorem lk_Evaluator_170 : (Jvm.Cond.methodLink "RowForge$Evaluator" (170 : Nat) ({ cls := "RowForge$Relation", name := "holds", desc := "(LRowForge$Relation;I)Z" } : Jvm.MethodName)) ∈ TB := tq7 106 rfl rfl
theorem lk_Relation_51 : (Jvm.Cond.methodLink "RowForge$Relation" (51 : Nat) ({ cls := "RowForge$Relation", name := "compareRows", desc := "(ILRowForge$Relation;I)I" } : Jvm.MethodName)) ∈ TB := tq7 110 rfl rfl
theorem lk_Relation_55 : (Jvm.Cond.methodLink "RowForge$Relation" (55 : Nat) ({ cls := "java/lang/Integer", name := "compare", desc := "(II)I" } : Jvm.MethodName)) ∈ TB := tq7 114 rfl rfl
theorem lk_Evaluator_174 : (Jvm.Cond.methodLink "RowForge$Evaluator" (174 : Nat) ({ cls := "RowForge$Relation", name := "addOnce", desc := "(LRowForge$Relation;I)V" } : Jvm.MethodName)) ∈ TB := tq7 115 rfl rfl
theorem lk_Relation_43 : (Jvm.Cond.methodLink "RowForge$Relation" (43 : Nat) ({ cls := "RowForge$Relation", name := "holds", desc := "(LRowForge$Relation;I)Z" } : Jvm.MethodName)) ∈ TB := tq7 119 rfl rfl
theorem lk_Relation_47 : (Jvm.Cond.methodLink "RowForge$Relation" (47 : Nat) ({ cls := "RowForge$Relation", name := "addRow", desc := "(LRowForge$Relation;I)V" } : Jvm.MethodName)) ∈ TB := tq7 120 rfl rfl
theorem lk_Evaluator_50 : (Jvm.Cond.methodLink "RowForge$Evaluator" (50 : Nat) ({ cls := "RowForge$Relation", name := "orderInto", desc := "([I[I)V" } : Jvm.MethodName)) ∈ TB := tq7 121 rfl rfl
theorem lk_Relation_61 : (Jvm.Cond.methodLink "RowForge$Relation" (61 : Nat) ({ cls := "java/lang/Math", name := "min", desc := "(II)I" } : Jvm.MethodName)) ∈ TB := tq7 125 rfl rfl
theorem lk_Relation_66 : (Jvm.Cond.methodLink "RowForge$Relation" (66 : Nat) ({ cls := "RowForge$Relation", name := "merge", desc := "([I[IIII)V" } : Jvm.MethodName)) ∈ TB := tq7 126 rfl rfl
theorem lk_F_278 : (Jvm.Cond.methodLink "RowForge" (278 : Nat) ({ cls := "RowForge$Relation", name := "copyFrom", desc := "(LRowForge$Relation;)V" } : Jvm.MethodName)) ∈ TB := tq7 130 rfl rfl
theorem lk_Law_195 : (Jvm.Cond.methodLink "RowForgeLaw" (195 : Nat) ({ cls := "RowForgeLaw", name := "abort", desc := "(LRowForge;I[J)I" } : Jvm.MethodName)) ∈ TB := tq7 134 rfl rfl
theorem lk_Law_51 : (Jvm.Cond.methodLink "RowForgeLaw" (51 : Nat) ({ cls := "RowForge", name := "abort", desc := "(I)I" } : Jvm.MethodName)) ∈ TB := tq7 137 rfl rfl
theorem lk_F_197 : (Jvm.Cond.methodLink "RowForge" (197 : Nat) ({ cls := "RowForge$Transaction", name := "isOpen", desc := "()Z" } : Jvm.MethodName)) ∈ TB := tq7 141 rfl rfl
theorem lk_F_200 : (Jvm.Cond.methodLink "RowForge" (200 : Nat) ({ cls := "RowForge$Engine", name := "rollBack", desc := "(LRowForge$Transaction;)I" } : Jvm.MethodName)) ∈ TB := tq7 142 rfl rfl
theorem lk_Law_198 : (Jvm.Cond.methodLink "RowForgeLaw" (198 : Nat) ({ cls := "RowForgeLaw", name := "state", desc := "(LRowForge;I[J)I" } : Jvm.MethodName)) ∈ TB := tq7 143 rfl rfl
theorem lk_Law_54 : (Jvm.Cond.methodLink "RowForgeLaw" (54 : Nat) ({ cls := "RowForge", name := "state", desc := "(I)I" } : Jvm.MethodName)) ∈ TB := tq7 146 rfl rfl
theorem lk_Law_201 : (Jvm.Cond.methodLink "RowForgeLaw" (201 : Nat) ({ cls := "RowForgeLaw", name := "outcome", desc := "(LRowForge;I[J)I" } : Jvm.MethodName)) ∈ TB := tq7 150 rfl rfl
theorem lk_Law_57 : (Jvm.Cond.methodLink "RowForgeLaw" (57 : Nat) ({ cls := "RowForge", name := "outcome", desc := "(I)I" } : Jvm.MethodName)) ∈ TB := tq7 153 rfl rfl
theorem lk_Law_204 : (Jvm.Cond.methodLink "RowForgeLaw" (204 : Nat) ({ cls := "RowForgeLaw", name := "waitsFor", desc := "(LRowForge;I[J)I" } : Jvm.MethodName)) ∈ TB := tq7 157 rfl rfl
theorem lk_Law_60 : (Jvm.Cond.methodLink "RowForgeLaw" (60 : Nat) ({ cls := "RowForge", name := "waitsFor", desc := "(I)I" } : Jvm.MethodName)) ∈ TB := tq7 160 rfl rfl
theorem lk_Law_207 : (Jvm.Cond.methodLink "RowForgeLaw" (207 : Nat) ({ cls := "RowForgeLaw", name := "hasRead", desc := "(LRowForge;III[J)I" } : Jvm.MethodName)) ∈ TB := tq7 164 rfl rfl
theorem lk_Law_63 : (Jvm.Cond.methodLink "RowForgeLaw" (63 : Nat) ({ cls := "RowForge", name := "hasRead", desc := "(III)Z" } : Jvm.MethodName)) ∈ TB := tq7 167 rfl rfl
theorem lk_F_209 : (Jvm.Cond.methodLink "RowForge" (209 : Nat) ({ cls := "RowForge$Transaction", name := "knows", desc := "(II)Z" } : Jvm.MethodName)) ∈ TB := tq7 171 rfl rfl
theorem lk_Transaction_92 : (Jvm.Cond.methodLink "RowForge$Transaction" (92 : Nat) ({ cls := "RowForge$Transaction", name := "hasReadWhole", desc := "(I)Z" } : Jvm.MethodName)) ∈ TB := tq7 175 rfl rfl
theorem lk_Law_210 : (Jvm.Cond.methodLink "RowForgeLaw" (210 : Nat) ({ cls := "RowForgeLaw", name := "own", desc := "(LRowForge;IIII[J)I" } : Jvm.MethodName)) ∈ TB := tq7 176 rfl rfl
theorem lk_Law_67 : (Jvm.Cond.methodLink "RowForgeLaw" (67 : Nat) ({ cls := "RowForge", name := "own", desc := "(IIII)I" } : Jvm.MethodName)) ∈ TB := tq7 179 rfl rfl
theorem lk_F_215 : (Jvm.Cond.methodLink "RowForge" (215 : Nat) ({ cls := "RowForge$Rows", name := "cellOf", desc := "(III)I" } : Jvm.MethodName)) ∈ TB := tq7 183 rfl rfl
theorem lk_Rows_36 : (Jvm.Cond.methodLink "RowForge$Rows" (36 : Nat) ({ cls := "RowForge$Rows", name := "find", desc := "(II)I" } : Jvm.MethodName)) ∈ TB := tq7 187 rfl rfl
theorem lk_Law_213 : (Jvm.Cond.methodLink "RowForgeLaw" (213 : Nat) ({ cls := "RowForgeLaw", name := "committed", desc := "(LRowForge;III[J)I" } : Jvm.MethodName)) ∈ TB := tq7 188 rfl rfl
theorem lk_Law_70 : (Jvm.Cond.methodLink "RowForgeLaw" (70 : Nat) ({ cls := "RowForge", name := "committed", desc := "(III)I" } : Jvm.MethodName)) ∈ TB := tq7 191 rfl rfl
theorem lk_Law_216 : (Jvm.Cond.methodLink "RowForgeLaw" (216 : Nat) ({ cls := "RowForgeLaw", name := "committedByLog", desc := "(LRowForge;III[J)I" } : Jvm.MethodName)) ∈ TB := tq7 195 rfl rfl
theorem lk_Law_73 : (Jvm.Cond.methodLink "RowForgeLaw" (73 : Nat) ({ cls := "RowForge", name := "committedByLog", desc := "(III)I" } : Jvm.MethodName)) ∈ TB := tq7 198 rfl rfl
theorem lk_F_223 : (Jvm.Cond.methodLink "RowForge" (223 : Nat) ({ cls := "RowForge$Log", name := "lastCommittedCell", desc := "(III)I" } : Jvm.MethodName)) ∈ TB := tq7 202 rfl rfl
theorem lk_Law_219 : (Jvm.Cond.methodLink "RowForgeLaw" (219 : Nat) ({ cls := "RowForgeLaw", name := "rowsOf", desc := "(LRowForge;I[J)I" } : Jvm.MethodName)) ∈ TB := tq7 206 rfl rfl
theorem lk_Law_76 : (Jvm.Cond.methodLink "RowForgeLaw" (76 : Nat) ({ cls := "RowForge", name := "rowsOf", desc := "(I)I" } : Jvm.MethodName)) ∈ TB := tq7 209 rfl rfl
theorem lk_Law_222 : (Jvm.Cond.methodLink "RowForgeLaw" (222 : Nat) ({ cls := "RowForgeLaw", name := "scan", desc := "(LRowForge;I[J)I" } : Jvm.MethodName)) ∈ TB := tq7 213 rfl rfl
theorem lk_Law_79 : (Jvm.Cond.methodLink "RowForgeLaw" (79 : Nat) ({ cls := "RowForge", name := "scan", desc := "(I)I" } : Jvm.MethodName)) ∈ TB := tq7 216 rfl rfl
theorem lk_F_235 : (Jvm.Cond.methodLink "RowForge" (235 : Nat) ({ cls := "RowForge$Query", name := "putScan", desc := "(II)V" } : Jvm.MethodName)) ∈ TB := tq7 220 rfl rfl
theorem lk_Query_49 : (Jvm.Cond.methodLink "RowForge$Query" (49 : Nat) ({ cls := "RowForge$Query", name := "put", desc := "(IIII)V" } : Jvm.MethodName)) ∈ TB := tq7 224 rfl rfl
theorem lk_Query_43 : (Jvm.Cond.methodLink "RowForge$Query" (43 : Nat) ({ cls := "java/util/Arrays", name := "fill", desc := "([IIII)V" } : Jvm.MethodName)) ∈ TB := tq7 228 rfl rfl
theorem lk_Query_53 : (Jvm.Cond.methodLink "RowForge$Query" (53 : Nat) ({ cls := "RowForge$Query", name := "setParameters", desc := "(IIII)V" } : Jvm.MethodName)) ∈ TB := tq7 229 rfl rfl
theorem lk_Law_225 : (Jvm.Cond.methodLink "RowForgeLaw" (225 : Nat) ({ cls := "RowForgeLaw", name := "filter", desc := "(LRowForge;IIIZ[J)I" } : Jvm.MethodName)) ∈ TB := tq7 233 rfl rfl
theorem lk_Law_82 : (Jvm.Cond.methodLink "RowForgeLaw" (82 : Nat) ({ cls := "RowForge", name := "filter", desc := "(IIIZ)I" } : Jvm.MethodName)) ∈ TB := tq7 236 rfl rfl
theorem lk_F_238 : (Jvm.Cond.methodLink "RowForge" (238 : Nat) ({ cls := "RowForge$Query", name := "takesOperator", desc := "(I)Z" } : Jvm.MethodName)) ∈ TB := tq8 0 rfl rfl
theorem lk_F_241 : (Jvm.Cond.methodLink "RowForge" (241 : Nat) ({ cls := "RowForge$Query", name := "lastWidth", desc := "()I" } : Jvm.MethodName)) ∈ TB := tq8 4 rfl rfl
theorem lk_F_244 : (Jvm.Cond.methodLink "RowForge" (244 : Nat) ({ cls := "RowForge$Query", name := "putOnLast", desc := "(IIIIII)V" } : Jvm.MethodName)) ∈ TB := tq8 8 rfl rfl
theorem lk_Law_229 : (Jvm.Cond.methodLink "RowForgeLaw" (229 : Nat) ({ cls := "RowForgeLaw", name := "filterColumns", desc := "(LRowForge;IIIZ[J)I" } : Jvm.MethodName)) ∈ TB := tq8 12 rfl rfl
theorem lk_Law_86 : (Jvm.Cond.methodLink "RowForgeLaw" (86 : Nat) ({ cls := "RowForge", name := "filterColumns", desc := "(IIIZ)I" } : Jvm.MethodName)) ∈ TB := tq8 15 rfl rfl
theorem lk_Law_232 : (Jvm.Cond.methodLink "RowForgeLaw" (232 : Nat) ({ cls := "RowForgeLaw", name := "ratio", desc := "(LRowForge;III[J)I" } : Jvm.MethodName)) ∈ TB := tq8 19 rfl rfl
theorem lk_Law_89 : (Jvm.Cond.methodLink "RowForgeLaw" (89 : Nat) ({ cls := "RowForge", name := "ratio", desc := "(III)I" } : Jvm.MethodName)) ∈ TB := tq8 22 rfl rfl
theorem lk_Law_235 : (Jvm.Cond.methodLink "RowForgeLaw" (235 : Nat) ({ cls := "RowForgeLaw", name := "join", desc := "(LRowForge;III[J)I" } : Jvm.MethodName)) ∈ TB := tq8 26 rfl rfl
theorem lk_Law_92 : (Jvm.Cond.methodLink "RowForgeLaw" (92 : Nat) ({ cls := "RowForge", name := "join", desc := "(III)I" } : Jvm.MethodName)) ∈ TB := tq8 29 rfl rfl
theorem lk_F_248 : (Jvm.Cond.methodLink "RowForge" (248 : Nat) ({ cls := "RowForge$Query", name := "earlierWidth", desc := "()I" } : Jvm.MethodName)) ∈ TB := tq8 33 rfl rfl
theorem lk_F_251 : (Jvm.Cond.methodLink "RowForge" (251 : Nat) ({ cls := "RowForge$Query", name := "putOnTwo", desc := "(IIIII)V" } : Jvm.MethodName)) ∈ TB := tq8 37 rfl rfl
theorem lk_Law_238 : (Jvm.Cond.methodLink "RowForgeLaw" (238 : Nat) ({ cls := "RowForgeLaw", name := "keep", desc := "(LRowForge;I[J)I" } : Jvm.MethodName)) ∈ TB := tq8 41 rfl rfl
theorem lk_Law_95 : (Jvm.Cond.methodLink "RowForgeLaw" (95 : Nat) ({ cls := "RowForge", name := "keep", desc := "(I)I" } : Jvm.MethodName)) ∈ TB := tq8 44 rfl rfl
theorem lk_F_255 : (Jvm.Cond.methodLink "RowForge" (255 : Nat) ({ cls := "java/lang/Integer", name := "bitCount", desc := "(I)I" } : Jvm.MethodName)) ∈ TB := tq8 48 rfl rfl
theorem lk_java_lang_Integer_265 : (Jvm.Cond.constant "java/lang/Integer" (265 : Nat) (1431655765 : Int32)) ∈ TB := tq8 51 rfl rfl
theorem lk_java_lang_Integer_266 : (Jvm.Cond.constant "java/lang/Integer" (266 : Nat) (858993459 : Int32)) ∈ TB := tq8 52 rfl rfl
theorem lk_java_lang_Integer_267 : (Jvm.Cond.constant "java/lang/Integer" (267 : Nat) (252645135 : Int32)) ∈ TB := tq8 53 rfl rfl
theorem lk_Law_241 : (Jvm.Cond.methodLink "RowForgeLaw" (241 : Nat) ({ cls := "RowForgeLaw", name := "group", desc := "(LRowForge;III[J)I" } : Jvm.MethodName)) ∈ TB := tq8 54 rfl rfl
theorem lk_Law_98 : (Jvm.Cond.methodLink "RowForgeLaw" (98 : Nat) ({ cls := "RowForge", name := "group", desc := "(III)I" } : Jvm.MethodName)) ∈ TB := tq8 57 rfl rfl
theorem lk_Law_244 : (Jvm.Cond.methodLink "RowForgeLaw" (244 : Nat) ({ cls := "RowForgeLaw", name := "combine", desc := "(LRowForge;I[J)I" } : Jvm.MethodName)) ∈ TB := tq8 61 rfl rfl
theorem lk_Law_101 : (Jvm.Cond.methodLink "RowForgeLaw" (101 : Nat) ({ cls := "RowForge", name := "combine", desc := "(I)I" } : Jvm.MethodName)) ∈ TB := tq8 64 rfl rfl
theorem lk_Law_251 : (Jvm.Cond.methodLink "RowForgeLaw" (251 : Nat) ({ cls := "RowForgeLaw", name := "query", desc := "(LRowForge;[J)I" } : Jvm.MethodName)) ∈ TB := tq8 68 rfl rfl
theorem lk_Law_104 : (Jvm.Cond.methodLink "RowForgeLaw" (104 : Nat) ({ cls := "RowForge", name := "query", desc := "()I" } : Jvm.MethodName)) ∈ TB := tq8 71 rfl rfl
theorem lk_F_263 : (Jvm.Cond.methodLink "RowForge" (263 : Nat) ({ cls := "java/util/ArrayList", name := "add", desc := "(Ljava/lang/Object;)Z" } : Jvm.MethodName)) ∈ TB := tq8 75 rfl rfl
theorem lk_Law_255 : (Jvm.Cond.methodLink "RowForgeLaw" (255 : Nat) ({ cls := "RowForgeLaw", name := "run", desc := "(LRowForge;II[J)I" } : Jvm.MethodName)) ∈ TB := tq8 76 rfl rfl
theorem lk_Law_111 : (Jvm.Cond.classLink "RowForgeLaw" (111 : Nat) "java/lang/ArithmeticException") ∈ TB := tq8 79 rfl rfl
theorem lk_Law_108 : (Jvm.Cond.methodLink "RowForgeLaw" (108 : Nat) ({ cls := "RowForge", name := "run", desc := "(II)I" } : Jvm.MethodName)) ∈ TB := tq8 93 rfl rfl
theorem lk_F_267 : (Jvm.Cond.methodLink "RowForge" (267 : Nat) ({ cls := "RowForge", name := "hasQuery", desc := "(I)Z" } : Jvm.MethodName)) ∈ TB := tq8 97 rfl rfl
theorem lk_F_274 : (Jvm.Cond.methodLink "RowForge" (274 : Nat) ({ cls := "RowForge", name := "resultFor", desc := "(LRowForge$Transaction;LRowForge$Query;)LRowForge$Relation;" } : Jvm.MethodName)) ∈ TB := tq8 101 rfl rfl
theorem lk_F_375 : (Jvm.Cond.classLink "RowForge" (375 : Nat) "java/lang/ArithmeticException") ∈ TB := tq8 105 rfl rfl
theorem lk_F_377 : (Jvm.Cond.methodLink "RowForge" (377 : Nat) ({ cls := "java/lang/ArithmeticException", name := "<init>", desc := "()V" } : Jvm.MethodName)) ∈ TB := tq8 106 rfl rfl
theorem lk_F_282 : (Jvm.Cond.methodLink "RowForge" (282 : Nat) ({ cls := "RowForge$Query", name := "noteReads", desc := "(LRowForge$Transaction;)V" } : Jvm.MethodName)) ∈ TB := tq8 110 rfl rfl
theorem lk_Query_60 : (Jvm.Cond.methodLink "RowForge$Query" (60 : Nat) ({ cls := "RowForge$Query", name := "noteReadsOf", desc := "(ILRowForge$Transaction;)V" } : Jvm.MethodName)) ∈ TB := tq8 114 rfl rfl
theorem lk_Query_56 : (Jvm.Cond.methodLink "RowForge$Query" (56 : Nat) ({ cls := "RowForge$Query", name := "parameter", desc := "(II)I" } : Jvm.MethodName)) ∈ TB := tq8 118 rfl rfl
theorem lk_Query_64 : (Jvm.Cond.methodLink "RowForge$Query" (64 : Nat) ({ cls := "RowForge$Query", name := "isFilter", desc := "(I)Z" } : Jvm.MethodName)) ∈ TB := tq8 119 rfl rfl
theorem lk_Query_68 : (Jvm.Cond.methodLink "RowForge$Query" (68 : Nat) ({ cls := "RowForge$Query", name := "asksForKey", desc := "(I)Z" } : Jvm.MethodName)) ∈ TB := tq8 123 rfl rfl
theorem lk_Query_71 : (Jvm.Cond.methodLink "RowForge$Query" (71 : Nat) ({ cls := "RowForge$Transaction", name := "readKey", desc := "(II)V" } : Jvm.MethodName)) ∈ TB := tq8 127 rfl rfl
theorem lk_Query_77 : (Jvm.Cond.methodLink "RowForge$Query" (77 : Nat) ({ cls := "RowForge$Transaction", name := "readWhole", desc := "(I)V" } : Jvm.MethodName)) ∈ TB := tq8 128 rfl rfl
theorem lk_Law_258 : (Jvm.Cond.methodLink "RowForgeLaw" (258 : Nat) ({ cls := "RowForgeLaw", name := "at", desc := "(LRowForge;II[J)I" } : Jvm.MethodName)) ∈ TB := tq8 129 rfl rfl
theorem lk_Law_113 : (Jvm.Cond.methodLink "RowForgeLaw" (113 : Nat) ({ cls := "RowForge", name := "at", desc := "(II)I" } : Jvm.MethodName)) ∈ TB := tq8 132 rfl rfl
theorem lk_F_287 : (Jvm.Cond.methodLink "RowForge" (287 : Nat) ({ cls := "RowForge", name := "cellAt", desc := "(LRowForge$Relation;II)I" } : Jvm.MethodName)) ∈ TB := tq8 136 rfl rfl
theorem lk_F_366 : (Jvm.Cond.methodLink "RowForge" (366 : Nat) ({ cls := "RowForge$Relation", name := "hasCell", desc := "(II)Z" } : Jvm.MethodName)) ∈ TB := tq8 139 rfl rfl
theorem lk_F_369 : (Jvm.Cond.methodLink "RowForge" (369 : Nat) ({ cls := "RowForge$Relation", name := "cell", desc := "(II)I" } : Jvm.MethodName)) ∈ TB := tq8 143 rfl rfl
theorem lk_Law_261 : (Jvm.Cond.methodLink "RowForgeLaw" (261 : Nat) ({ cls := "RowForgeLaw", name := "atByLoops", desc := "(LRowForge;IIII[J)I" } : Jvm.MethodName)) ∈ TB := tq8 144 rfl rfl
theorem lk_Law_116 : (Jvm.Cond.methodLink "RowForgeLaw" (116 : Nat) ({ cls := "RowForge", name := "atByLoops", desc := "(IIII)I" } : Jvm.MethodName)) ∈ TB := tq8 147 rfl rfl
theorem lk_Law_268 : (Jvm.Cond.methodLink "RowForgeLaw" (268 : Nat) ({ cls := "RowForgeLaw", name := "prepare", desc := "(LRowForge;I[J)I" } : Jvm.MethodName)) ∈ TB := tq8 151 rfl rfl
theorem lk_Law_119 : (Jvm.Cond.methodLink "RowForgeLaw" (119 : Nat) ({ cls := "RowForge", name := "prepare", desc := "(I)I" } : Jvm.MethodName)) ∈ TB := tq8 154 rfl rfl
theorem lk_F_299 : (Jvm.Cond.methodLink "RowForge" (299 : Nat) ({ cls := "RowForge$Planner", name := "plan", desc := "(LRowForge$Query;)V" } : Jvm.MethodName)) ∈ TB := tq8 158 rfl rfl
theorem lk_Planner_72 : (Jvm.Cond.methodLink "RowForge$Planner" (72 : Nat) ({ cls := "RowForge$Planner", name := "topOfBlock", desc := "(LRowForge$Query;)I" } : Jvm.MethodName)) ∈ TB := tq8 162 rfl rfl
theorem lk_Planner_100 : (Jvm.Cond.methodLink "RowForge$Planner" (100 : Nat) ({ cls := "RowForge$Planner", name := "isPassed", desc := "(LRowForge$Query;I)Z" } : Jvm.MethodName)) ∈ TB := tq8 165 rfl rfl
theorem lk_Planner_108 : (Jvm.Cond.methodLink "RowForge$Planner" (108 : Nat) ({ cls := "RowForge$Query", name := "isFilter", desc := "(I)Z" } : Jvm.MethodName)) ∈ TB := tq8 168 rfl rfl
theorem lk_Planner_104 : (Jvm.Cond.methodLink "RowForge$Planner" (104 : Nat) ({ cls := "RowForge$Query", name := "isInnerJoin", desc := "(I)Z" } : Jvm.MethodName)) ∈ TB := tq8 169 rfl rfl
theorem lk_Planner_76 : (Jvm.Cond.methodLink "RowForge$Planner" (76 : Nat) ({ cls := "RowForge$Planner", name := "reach", desc := "(LRowForge$Query;I)V" } : Jvm.MethodName)) ∈ TB := tq8 173 rfl rfl
theorem lk_Planner_114 : (Jvm.Cond.methodLink "RowForge$Planner" (114 : Nat) ({ cls := "RowForge$Planner", name := "isInner", desc := "(LRowForge$Query;I)Z" } : Jvm.MethodName)) ∈ TB := tq8 177 rfl rfl
theorem lk_Planner_117 : (Jvm.Cond.methodLink "RowForge$Planner" (117 : Nat) ({ cls := "RowForge$Planner", name := "reachOperands", desc := "(LRowForge$Query;I)V" } : Jvm.MethodName)) ∈ TB := tq8 180 rfl rfl
theorem lk_Planner_80 : (Jvm.Cond.methodLink "RowForge$Planner" (80 : Nat) ({ cls := "RowForge$Planner", name := "describeLeaves", desc := "(LRowForge$Query;)V" } : Jvm.MethodName)) ∈ TB := tq8 184 rfl rfl
theorem lk_Planner_130 : (Jvm.Cond.methodLink "RowForge$Planner" (130 : Nat) ({ cls := "RowForge$Query", name := "parameter", desc := "(II)I" } : Jvm.MethodName)) ∈ TB := tq8 188 rfl rfl
theorem lk_Planner_84 : (Jvm.Cond.methodLink "RowForge$Planner" (84 : Nat) ({ cls := "RowForge$Planner", name := "applyFilters", desc := "(LRowForge$Query;I)V" } : Jvm.MethodName)) ∈ TB := tq8 189 rfl rfl
theorem lk_Planner_134 : (Jvm.Cond.methodLink "RowForge$Planner" (134 : Nat) ({ cls := "RowForge$Planner", name := "divided", desc := "(II)I" } : Jvm.MethodName)) ∈ TB := tq8 193 rfl rfl
theorem lk_Planner_137 : (Jvm.Cond.methodLink "RowForge$Planner" (137 : Nat) ({ cls := "java/lang/Math", name := "max", desc := "(II)I" } : Jvm.MethodName)) ∈ TB := tq8 196 rfl rfl
theorem lk_Planner_87 : (Jvm.Cond.methodLink "RowForge$Planner" (87 : Nat) ({ cls := "RowForge$Planner", name := "gatherJoins", desc := "(LRowForge$Query;I)V" } : Jvm.MethodName)) ∈ TB := tq8 197 rfl rfl
theorem lk_Planner_90 : (Jvm.Cond.methodLink "RowForge$Planner" (90 : Nat) ({ cls := "RowForge$Planner", name := "chooseOrder", desc := "(LRowForge$Query;)V" } : Jvm.MethodName)) ∈ TB := tq8 201 rfl rfl
theorem lk_Planner_149 : (Jvm.Cond.methodLink "RowForge$Planner" (149 : Nat) ({ cls := "RowForge$Planner", name := "spellsOrder", desc := "(I)Z" } : Jvm.MethodName)) ∈ TB := tq8 205 rfl rfl
theorem lk_Planner_169 : (Jvm.Cond.methodLink "RowForge$Planner" (169 : Nat) ({ cls := "java/lang/Integer", name := "bitCount", desc := "(I)I" } : Jvm.MethodName)) ∈ TB := tq8 209 rfl rfl
theorem lk_Planner_152 : (Jvm.Cond.methodLink "RowForge$Planner" (152 : Nat) ({ cls := "RowForge$Planner", name := "costOfTried", desc := "()I" } : Jvm.MethodName)) ∈ TB := tq8 210 rfl rfl
theorem lk_Planner_174 : (Jvm.Cond.methodLink "RowForge$Planner" (174 : Nat) ({ cls := "RowForge$Planner", name := "connects", desc := "(III)Z" } : Jvm.MethodName)) ∈ TB := tq8 214 rfl rfl
theorem lk_Planner_163 : (Jvm.Cond.methodLink "RowForge$Planner" (163 : Nat) ({ cls := "java/lang/System", name := "arraycopy", desc := "(Ljava/lang/Object;ILjava/lang/Object;II)V" } : Jvm.MethodName)) ∈ TB := tq8 218 rfl rfl
theorem lk_Law_271 : (Jvm.Cond.methodLink "RowForgeLaw" (271 : Nat) ({ cls := "RowForgeLaw", name := "planAt", desc := "(LRowForge;II[J)I" } : Jvm.MethodName)) ∈ TB := tq8 219 rfl rfl
theorem lk_Law_122 : (Jvm.Cond.methodLink "RowForgeLaw" (122 : Nat) ({ cls := "RowForge", name := "planAt", desc := "(II)I" } : Jvm.MethodName)) ∈ TB := tq8 222 rfl rfl
theorem lk_Law_278 : (Jvm.Cond.methodLink "RowForgeLaw" (278 : Nat) ({ cls := "RowForgeLaw", name := "view", desc := "(LRowForge;I[J)I" } : Jvm.MethodName)) ∈ TB := tq8 226 rfl rfl
theorem lk_Law_125 : (Jvm.Cond.methodLink "RowForgeLaw" (125 : Nat) ({ cls := "RowForge", name := "view", desc := "(I)I" } : Jvm.MethodName)) ∈ TB := tq8 229 rfl rfl
theorem lk_F_315 : (Jvm.Cond.methodLink "RowForge" (315 : Nat) ({ cls := "RowForge$Query", name := "isViewable", desc := "()Z" } : Jvm.MethodName)) ∈ TB := tq8 233 rfl rfl
theorem lk_Query_81 : (Jvm.Cond.methodLink "RowForge$Query" (81 : Nat) ({ cls := "RowForge$Query", name := "isInnerJoin", desc := "(I)Z" } : Jvm.MethodName)) ∈ TB := tq8 237 rfl rfl
theorem lk_Query_84 : (Jvm.Cond.methodLink "RowForge$Query" (84 : Nat) ({ cls := "RowForge$Query", name := "isViewableGroup", desc := "(I)Z" } : Jvm.MethodName)) ∈ TB := tq8 238 rfl rfl
theorem lk_Law_281 : (Jvm.Cond.methodLink "RowForgeLaw" (281 : Nat) ({ cls := "RowForgeLaw", name := "viewRows", desc := "(LRowForge;I[J)I" } : Jvm.MethodName)) ∈ TB := tq9 2 rfl rfl
theorem lk_Law_128 : (Jvm.Cond.methodLink "RowForgeLaw" (128 : Nat) ({ cls := "RowForge", name := "viewRows", desc := "(I)I" } : Jvm.MethodName)) ∈ TB := tq9 5 rfl rfl
theorem lk_F_322 : (Jvm.Cond.methodLink "RowForge" (322 : Nat) ({ cls := "RowForge", name := "hasView", desc := "(I)Z" } : Jvm.MethodName)) ∈ TB := tq9 9 rfl rfl
theorem lk_Law_284 : (Jvm.Cond.methodLink "RowForgeLaw" (284 : Nat) ({ cls := "RowForgeLaw", name := "viewAt", desc := "(LRowForge;III[J)I" } : Jvm.MethodName)) ∈ TB := tq9 13 rfl rfl
theorem lk_Law_131 : (Jvm.Cond.methodLink "RowForgeLaw" (131 : Nat) ({ cls := "RowForge", name := "viewAt", desc := "(III)I" } : Jvm.MethodName)) ∈ TB := tq9 16 rfl rfl
theorem lk_Law_287 : (Jvm.Cond.methodLink "RowForgeLaw" (287 : Nat) ({ cls := "RowForgeLaw", name := "viewAnew", desc := "(LRowForge;III[J)I" } : Jvm.MethodName)) ∈ TB := tq9 20 rfl rfl
theorem lk_Law_134 : (Jvm.Cond.methodLink "RowForgeLaw" (134 : Nat) ({ cls := "RowForge", name := "viewAnew", desc := "(III)I" } : Jvm.MethodName)) ∈ TB := tq9 23 rfl rfl
theorem lk_Law_294 : (Jvm.Cond.methodLink "RowForgeLaw" (294 : Nat) ({ cls := "RowForgeLaw", name := "crash", desc := "(LRowForge;I[J)I" } : Jvm.MethodName)) ∈ TB := tq9 27 rfl rfl
theorem lk_Law_137 : (Jvm.Cond.methodLink "RowForgeLaw" (137 : Nat) ({ cls := "RowForge", name := "crash", desc := "(I)I" } : Jvm.MethodName)) ∈ TB := tq9 30 rfl rfl
theorem lk_F_336 : (Jvm.Cond.methodLink "RowForge" (336 : Nat) ({ cls := "RowForge$Engine", name := "comeBack", desc := "(I)I" } : Jvm.MethodName)) ∈ TB := tq9 34 rfl rfl
theorem lk_Engine_240 : (Jvm.Cond.methodLink "RowForge$Engine" (240 : Nat) ({ cls := "RowForge$Log", name := "cut", desc := "(I)V" } : Jvm.MethodName)) ∈ TB := tq9 38 rfl rfl
theorem lk_Engine_243 : (Jvm.Cond.methodLink "RowForge$Engine" (243 : Nat) ({ cls := "RowForge$Log", name := "markLeftOpen", desc := "()V" } : Jvm.MethodName)) ∈ TB := tq9 42 rfl rfl
theorem lk_Law_305 : (Jvm.Cond.methodLink "RowForgeLaw" (305 : Nat) ({ cls := "RowForgeLaw", name := "recordKind", desc := "(LRowForge;I[J)I" } : Jvm.MethodName)) ∈ TB := tq9 46 rfl rfl
theorem lk_Law_140 : (Jvm.Cond.methodLink "RowForgeLaw" (140 : Nat) ({ cls := "RowForge", name := "recordKind", desc := "(I)I" } : Jvm.MethodName)) ∈ TB := tq9 49 rfl rfl
theorem lk_F_339 : (Jvm.Cond.methodLink "RowForge" (339 : Nat) ({ cls := "RowForge$Log", name := "holds", desc := "(I)Z" } : Jvm.MethodName)) ∈ TB := tq9 53 rfl rfl
theorem lk_F_342 : (Jvm.Cond.methodLink "RowForge" (342 : Nat) ({ cls := "RowForge$Log", name := "kindOf", desc := "(I)I" } : Jvm.MethodName)) ∈ TB := tq9 57 rfl rfl
theorem lk_Law_308 : (Jvm.Cond.methodLink "RowForgeLaw" (308 : Nat) ({ cls := "RowForgeLaw", name := "recordOf", desc := "(LRowForge;I[J)I" } : Jvm.MethodName)) ∈ TB := tq9 58 rfl rfl
theorem lk_Law_143 : (Jvm.Cond.methodLink "RowForgeLaw" (143 : Nat) ({ cls := "RowForge", name := "recordOf", desc := "(I)I" } : Jvm.MethodName)) ∈ TB := tq9 61 rfl rfl
theorem lk_F_345 : (Jvm.Cond.methodLink "RowForge" (345 : Nat) ({ cls := "RowForge$Log", name := "writerOf", desc := "(I)I" } : Jvm.MethodName)) ∈ TB := tq9 65 rfl rfl
theorem lk_Law_311 : (Jvm.Cond.methodLink "RowForgeLaw" (311 : Nat) ({ cls := "RowForgeLaw", name := "recordAt", desc := "(LRowForge;IZ[J)I" } : Jvm.MethodName)) ∈ TB := tq9 66 rfl rfl
theorem lk_Law_146 : (Jvm.Cond.methodLink "RowForgeLaw" (146 : Nat) ({ cls := "RowForge", name := "recordAt", desc := "(IZ)I" } : Jvm.MethodName)) ∈ TB := tq9 69 rfl rfl
theorem lk_F_348 : (Jvm.Cond.methodLink "RowForge" (348 : Nat) ({ cls := "RowForge$Log", name := "keyOf", desc := "(I)I" } : Jvm.MethodName)) ∈ TB := tq9 73 rfl rfl
theorem lk_F_351 : (Jvm.Cond.methodLink "RowForge" (351 : Nat) ({ cls := "RowForge$Log", name := "tableOf", desc := "(I)I" } : Jvm.MethodName)) ∈ TB := tq9 74 rfl rfl
theorem lk_Law_151 : (Jvm.Cond.classLink "RowForgeLaw" (151 : Nat) "RowForgeModel") ∈ TB := tq9 75 rfl rfl
theorem lk_Law_153 : (Jvm.Cond.methodLink "RowForgeLaw" (153 : Nat) ({ cls := "RowForgeModel", name := "<init>", desc := "()V" } : Jvm.MethodName)) ∈ TB := tq9 77 rfl rfl
theorem lk_Model_1 : (Jvm.Cond.methodLink "RowForgeModel" (1 : Nat) ({ cls := "java/lang/Object", name := "<init>", desc := "()V" } : Jvm.MethodName)) ∈ TB := tq9 80 rfl rfl
theorem lk_Model_101 : (Jvm.Cond.constant "RowForgeModel" (101 : Nat) (122880 : Int32)) ∈ TB := tq9 81 rfl rfl
theorem lk_Model_177 : (Jvm.Cond.constant "RowForgeModel" (177 : Nat) (800000 : Int32)) ∈ TB := tq9 82 rfl rfl
theorem lk_Model_190 : (Jvm.Cond.constant "RowForgeModel" (190 : Nat) (400000 : Int32)) ∈ TB := tq9 83 rfl rfl
theorem lk_Model_239 : (Jvm.Cond.fieldLink "RowForgeModel" (239 : Nat) "RowForgeModel" "tables" "I") ∈ TB := tq9 84 rfl rfl
theorem lk_Model_7 : (Jvm.Cond.fieldLink "RowForgeModel" (7 : Nat) "RowForgeModel" "columns" "[I") ∈ TB := tq9 85 rfl rfl
theorem lk_Model_13 : (Jvm.Cond.fieldLink "RowForgeModel" (13 : Nat) "RowForgeModel" "checks" "[I") ∈ TB := tq9 86 rfl rfl
theorem lk_Model_16 : (Jvm.Cond.fieldLink "RowForgeModel" (16 : Nat) "RowForgeModel" "checkColumn" "[I") ∈ TB := tq9 87 rfl rfl
theorem lk_Model_19 : (Jvm.Cond.fieldLink "RowForgeModel" (19 : Nat) "RowForgeModel" "checkHow" "[I") ∈ TB := tq9 88 rfl rfl
theorem lk_Model_22 : (Jvm.Cond.fieldLink "RowForgeModel" (22 : Nat) "RowForgeModel" "checkValue" "[I") ∈ TB := tq9 89 rfl rfl
theorem lk_Model_25 : (Jvm.Cond.fieldLink "RowForgeModel" (25 : Nat) "RowForgeModel" "target" "[I") ∈ TB := tq9 90 rfl rfl
theorem lk_Model_28 : (Jvm.Cond.fieldLink "RowForgeModel" (28 : Nat) "RowForgeModel" "rule" "[I") ∈ TB := tq9 91 rfl rfl
theorem lk_Model_270 : (Jvm.Cond.fieldLink "RowForgeModel" (270 : Nat) "RowForgeModel" "veils" "I") ∈ TB := tq9 92 rfl rfl
theorem lk_Model_31 : (Jvm.Cond.fieldLink "RowForgeModel" (31 : Nat) "RowForgeModel" "veilRole" "[I") ∈ TB := tq9 93 rfl rfl
theorem lk_Model_34 : (Jvm.Cond.fieldLink "RowForgeModel" (34 : Nat) "RowForgeModel" "veilTable" "[I") ∈ TB := tq9 94 rfl rfl
theorem lk_Model_37 : (Jvm.Cond.fieldLink "RowForgeModel" (37 : Nat) "RowForgeModel" "veilColumn" "[I") ∈ TB := tq9 95 rfl rfl
theorem lk_Model_40 : (Jvm.Cond.fieldLink "RowForgeModel" (40 : Nat) "RowForgeModel" "veilHow" "[I") ∈ TB := tq9 96 rfl rfl
theorem lk_Model_43 : (Jvm.Cond.fieldLink "RowForgeModel" (43 : Nat) "RowForgeModel" "veilValue" "[I") ∈ TB := tq9 97 rfl rfl
theorem lk_Model_46 : (Jvm.Cond.fieldLink "RowForgeModel" (46 : Nat) "RowForgeModel" "rows" "[I") ∈ TB := tq9 98 rfl rfl
theorem lk_Model_49 : (Jvm.Cond.fieldLink "RowForgeModel" (49 : Nat) "RowForgeModel" "value" "[I") ∈ TB := tq9 99 rfl rfl
theorem lk_Model_285 : (Jvm.Cond.fieldLink "RowForgeModel" (285 : Nat) "RowForgeModel" "clock" "I") ∈ TB := tq9 100 rfl rfl
theorem lk_Model_52 : (Jvm.Cond.fieldLink "RowForgeModel" (52 : Nat) "RowForgeModel" "wrote" "[I") ∈ TB := tq9 101 rfl rfl
theorem lk_Model_55 : (Jvm.Cond.fieldLink "RowForgeModel" (55 : Nat) "RowForgeModel" "wroteTable" "[I") ∈ TB := tq9 102 rfl rfl
theorem lk_Model_247 : (Jvm.Cond.fieldLink "RowForgeModel" (247 : Nat) "RowForgeModel" "transactions" "I") ∈ TB := tq9 103 rfl rfl
theorem lk_Model_58 : (Jvm.Cond.fieldLink "RowForgeModel" (58 : Nat) "RowForgeModel" "role" "[I") ∈ TB := tq9 104 rfl rfl
theorem lk_Model_61 : (Jvm.Cond.fieldLink "RowForgeModel" (61 : Nat) "RowForgeModel" "state" "[I") ∈ TB := tq9 105 rfl rfl
theorem lk_Model_64 : (Jvm.Cond.fieldLink "RowForgeModel" (64 : Nat) "RowForgeModel" "outcome" "[I") ∈ TB := tq9 106 rfl rfl
theorem lk_Model_67 : (Jvm.Cond.fieldLink "RowForgeModel" (67 : Nat) "RowForgeModel" "place" "[I") ∈ TB := tq9 107 rfl rfl
theorem lk_Model_70 : (Jvm.Cond.fieldLink "RowForgeModel" (70 : Nat) "RowForgeModel" "began" "[I") ∈ TB := tq9 108 rfl rfl
theorem lk_Model_73 : (Jvm.Cond.fieldLink "RowForgeModel" (73 : Nat) "RowForgeModel" "waitsFor" "[I") ∈ TB := tq9 109 rfl rfl
theorem lk_Model_76 : (Jvm.Cond.fieldLink "RowForgeModel" (76 : Nat) "RowForgeModel" "isTaken" "[Z") ∈ TB := tq9 110 rfl rfl
theorem lk_Model_80 : (Jvm.Cond.fieldLink "RowForgeModel" (80 : Nat) "RowForgeModel" "what" "[I") ∈ TB := tq9 111 rfl rfl
theorem lk_Model_83 : (Jvm.Cond.fieldLink "RowForgeModel" (83 : Nat) "RowForgeModel" "which" "[I") ∈ TB := tq9 112 rfl rfl
theorem lk_Model_86 : (Jvm.Cond.fieldLink "RowForgeModel" (86 : Nat) "RowForgeModel" "whose" "[I") ∈ TB := tq9 113 rfl rfl
theorem lk_Model_89 : (Jvm.Cond.fieldLink "RowForgeModel" (89 : Nat) "RowForgeModel" "where" "[I") ∈ TB := tq9 114 rfl rfl
theorem lk_Model_92 : (Jvm.Cond.fieldLink "RowForgeModel" (92 : Nat) "RowForgeModel" "to" "[I") ∈ TB := tq9 115 rfl rfl
theorem lk_Model_95 : (Jvm.Cond.fieldLink "RowForgeModel" (95 : Nat) "RowForgeModel" "draftOf" "[I") ∈ TB := tq9 116 rfl rfl
theorem lk_Model_98 : (Jvm.Cond.fieldLink "RowForgeModel" (98 : Nat) "RowForgeModel" "reads" "[I") ∈ TB := tq9 117 rfl rfl
theorem lk_Model_102 : (Jvm.Cond.fieldLink "RowForgeModel" (102 : Nat) "RowForgeModel" "readTable" "[I") ∈ TB := tq9 118 rfl rfl
theorem lk_Model_105 : (Jvm.Cond.fieldLink "RowForgeModel" (105 : Nat) "RowForgeModel" "readKey" "[I") ∈ TB := tq9 119 rfl rfl
theorem lk_Model_108 : (Jvm.Cond.fieldLink "RowForgeModel" (108 : Nat) "RowForgeModel" "hasWhole" "[Z") ∈ TB := tq9 120 rfl rfl
theorem lk_Model_288 : (Jvm.Cond.fieldLink "RowForgeModel" (288 : Nat) "RowForgeModel" "drafted" "I") ∈ TB := tq9 121 rfl rfl
theorem lk_Model_111 : (Jvm.Cond.fieldLink "RowForgeModel" (111 : Nat) "RowForgeModel" "draft" "[I") ∈ TB := tq9 122 rfl rfl
theorem lk_Model_114 : (Jvm.Cond.fieldLink "RowForgeModel" (114 : Nat) "RowForgeModel" "isGone" "[Z") ∈ TB := tq9 123 rfl rfl
theorem lk_Model_117 : (Jvm.Cond.fieldLink "RowForgeModel" (117 : Nat) "RowForgeModel" "isBlank" "[Z") ∈ TB := tq9 124 rfl rfl
theorem lk_Model_312 : (Jvm.Cond.fieldLink "RowForgeModel" (312 : Nat) "RowForgeModel" "writes" "I") ∈ TB := tq9 125 rfl rfl
theorem lk_Model_120 : (Jvm.Cond.fieldLink "RowForgeModel" (120 : Nat) "RowForgeModel" "writeTable" "[I") ∈ TB := tq9 126 rfl rfl
theorem lk_Model_123 : (Jvm.Cond.fieldLink "RowForgeModel" (123 : Nat) "RowForgeModel" "writeKey" "[I") ∈ TB := tq9 127 rfl rfl
theorem lk_Model_294 : (Jvm.Cond.fieldLink "RowForgeModel" (294 : Nat) "RowForgeModel" "records" "I") ∈ TB := tq9 128 rfl rfl
theorem lk_Model_394 : (Jvm.Cond.fieldLink "RowForgeModel" (394 : Nat) "RowForgeModel" "flushed" "I") ∈ TB := tq9 129 rfl rfl
theorem lk_Model_126 : (Jvm.Cond.fieldLink "RowForgeModel" (126 : Nat) "RowForgeModel" "kind" "[I") ∈ TB := tq9 130 rfl rfl
theorem lk_Model_129 : (Jvm.Cond.fieldLink "RowForgeModel" (129 : Nat) "RowForgeModel" "recordOf" "[I") ∈ TB := tq9 131 rfl rfl
theorem lk_Model_132 : (Jvm.Cond.fieldLink "RowForgeModel" (132 : Nat) "RowForgeModel" "recordTable" "[I") ∈ TB := tq9 132 rfl rfl
theorem lk_Model_135 : (Jvm.Cond.fieldLink "RowForgeModel" (135 : Nat) "RowForgeModel" "recordKey" "[I") ∈ TB := tq9 133 rfl rfl
theorem lk_Model_406 : (Jvm.Cond.fieldLink "RowForgeModel" (406 : Nat) "RowForgeModel" "trees" "I") ∈ TB := tq9 134 rfl rfl
theorem lk_Model_403 : (Jvm.Cond.fieldLink "RowForgeModel" (403 : Nat) "RowForgeModel" "operators" "I") ∈ TB := tq9 135 rfl rfl
theorem lk_Model_138 : (Jvm.Cond.fieldLink "RowForgeModel" (138 : Nat) "RowForgeModel" "treeFrom" "[I") ∈ TB := tq9 136 rfl rfl
theorem lk_Model_141 : (Jvm.Cond.fieldLink "RowForgeModel" (141 : Nat) "RowForgeModel" "treeWidth" "[I") ∈ TB := tq9 137 rfl rfl
theorem lk_Model_412 : (Jvm.Cond.fieldLink "RowForgeModel" (412 : Nat) "RowForgeModel" "scans" "I") ∈ TB := tq9 138 rfl rfl
theorem lk_Model_144 : (Jvm.Cond.fieldLink "RowForgeModel" (144 : Nat) "RowForgeModel" "operator" "[I") ∈ TB := tq9 139 rfl rfl
theorem lk_Model_147 : (Jvm.Cond.fieldLink "RowForgeModel" (147 : Nat) "RowForgeModel" "numberA" "[I") ∈ TB := tq9 140 rfl rfl
theorem lk_Model_150 : (Jvm.Cond.fieldLink "RowForgeModel" (150 : Nat) "RowForgeModel" "numberB" "[I") ∈ TB := tq9 141 rfl rfl
theorem lk_Model_153 : (Jvm.Cond.fieldLink "RowForgeModel" (153 : Nat) "RowForgeModel" "numberC" "[I") ∈ TB := tq9 142 rfl rfl
theorem lk_Model_156 : (Jvm.Cond.fieldLink "RowForgeModel" (156 : Nat) "RowForgeModel" "isNot" "[Z") ∈ TB := tq9 143 rfl rfl
theorem lk_Model_428 : (Jvm.Cond.fieldLink "RowForgeModel" (428 : Nat) "RowForgeModel" "queries" "I") ∈ TB := tq9 144 rfl rfl
theorem lk_Model_159 : (Jvm.Cond.fieldLink "RowForgeModel" (159 : Nat) "RowForgeModel" "size" "[I") ∈ TB := tq9 145 rfl rfl
theorem lk_Model_162 : (Jvm.Cond.fieldLink "RowForgeModel" (162 : Nat) "RowForgeModel" "hasPlan" "[Z") ∈ TB := tq9 146 rfl rfl
theorem lk_Model_165 : (Jvm.Cond.fieldLink "RowForgeModel" (165 : Nat) "RowForgeModel" "planCost" "[I") ∈ TB := tq9 147 rfl rfl
theorem lk_Model_168 : (Jvm.Cond.fieldLink "RowForgeModel" (168 : Nat) "RowForgeModel" "planLeaves" "[I") ∈ TB := tq9 148 rfl rfl
theorem lk_Model_171 : (Jvm.Cond.fieldLink "RowForgeModel" (171 : Nat) "RowForgeModel" "plan" "[I") ∈ TB := tq9 149 rfl rfl
theorem lk_Model_551 : (Jvm.Cond.fieldLink "RowForgeModel" (551 : Nat) "RowForgeModel" "planned" "I") ∈ TB := tq9 150 rfl rfl
theorem lk_Model_557 : (Jvm.Cond.fieldLink "RowForgeModel" (557 : Nat) "RowForgeModel" "views" "I") ∈ TB := tq9 151 rfl rfl
theorem lk_Model_174 : (Jvm.Cond.fieldLink "RowForgeModel" (174 : Nat) "RowForgeModel" "viewOf" "[I") ∈ TB := tq9 152 rfl rfl
theorem lk_Model_178 : (Jvm.Cond.fieldLink "RowForgeModel" (178 : Nat) "RowForgeModel" "pool" "[I") ∈ TB := tq9 153 rfl rfl
theorem lk_Model_434 : (Jvm.Cond.fieldLink "RowForgeModel" (434 : Nat) "RowForgeModel" "results" "I") ∈ TB := tq9 154 rfl rfl
theorem lk_Model_181 : (Jvm.Cond.fieldLink "RowForgeModel" (181 : Nat) "RowForgeModel" "from" "[I") ∈ TB := tq9 155 rfl rfl
theorem lk_Model_184 : (Jvm.Cond.fieldLink "RowForgeModel" (184 : Nat) "RowForgeModel" "many" "[I") ∈ TB := tq9 156 rfl rfl
theorem lk_Model_187 : (Jvm.Cond.fieldLink "RowForgeModel" (187 : Nat) "RowForgeModel" "wide" "[I") ∈ TB := tq9 157 rfl rfl
theorem lk_Model_440 : (Jvm.Cond.fieldLink "RowForgeModel" (440 : Nat) "RowForgeModel" "isFailed" "Z") ∈ TB := tq9 158 rfl rfl
theorem lk_Model_191 : (Jvm.Cond.fieldLink "RowForgeModel" (191 : Nat) "RowForgeModel" "kept" "[I") ∈ TB := tq9 159 rfl rfl
theorem lk_Model_495 : (Jvm.Cond.fieldLink "RowForgeModel" (495 : Nat) "RowForgeModel" "keptRows" "I") ∈ TB := tq9 160 rfl rfl
theorem lk_Model_498 : (Jvm.Cond.fieldLink "RowForgeModel" (498 : Nat) "RowForgeModel" "keptWidth" "I") ∈ TB := tq9 161 rfl rfl
theorem lk_Model_194 : (Jvm.Cond.fieldLink "RowForgeModel" (194 : Nat) "RowForgeModel" "left" "[I") ∈ TB := tq9 162 rfl rfl
theorem lk_Model_197 : (Jvm.Cond.fieldLink "RowForgeModel" (197 : Nat) "RowForgeModel" "right" "[I") ∈ TB := tq9 163 rfl rfl
theorem lk_Model_200 : (Jvm.Cond.fieldLink "RowForgeModel" (200 : Nat) "RowForgeModel" "widthOf" "[I") ∈ TB := tq9 164 rfl rfl
theorem lk_Model_203 : (Jvm.Cond.fieldLink "RowForgeModel" (203 : Nat) "RowForgeModel" "offset" "[I") ∈ TB := tq9 165 rfl rfl
theorem lk_Model_206 : (Jvm.Cond.fieldLink "RowForgeModel" (206 : Nat) "RowForgeModel" "stack" "[I") ∈ TB := tq9 166 rfl rfl
theorem lk_Model_510 : (Jvm.Cond.fieldLink "RowForgeModel" (510 : Nat) "RowForgeModel" "leaves" "I") ∈ TB := tq9 167 rfl rfl
theorem lk_Model_209 : (Jvm.Cond.fieldLink "RowForgeModel" (209 : Nat) "RowForgeModel" "leafNode" "[I") ∈ TB := tq9 168 rfl rfl
theorem lk_Model_212 : (Jvm.Cond.fieldLink "RowForgeModel" (212 : Nat) "RowForgeModel" "leafFrom" "[I") ∈ TB := tq9 169 rfl rfl
theorem lk_Model_215 : (Jvm.Cond.fieldLink "RowForgeModel" (215 : Nat) "RowForgeModel" "leafRows" "[J") ∈ TB := tq9 170 rfl rfl
theorem lk_Model_513 : (Jvm.Cond.fieldLink "RowForgeModel" (513 : Nat) "RowForgeModel" "joins" "I") ∈ TB := tq9 171 rfl rfl
theorem lk_Model_219 : (Jvm.Cond.fieldLink "RowForgeModel" (219 : Nat) "RowForgeModel" "joinOne" "[I") ∈ TB := tq9 172 rfl rfl
theorem lk_Model_222 : (Jvm.Cond.fieldLink "RowForgeModel" (222 : Nat) "RowForgeModel" "joinTwo" "[I") ∈ TB := tq9 173 rfl rfl
theorem lk_Model_225 : (Jvm.Cond.fieldLink "RowForgeModel" (225 : Nat) "RowForgeModel" "statRows" "[I") ∈ TB := tq9 174 rfl rfl
theorem lk_Model_228 : (Jvm.Cond.fieldLink "RowForgeModel" (228 : Nat) "RowForgeModel" "statValues" "[I") ∈ TB := tq9 175 rfl rfl
theorem lk_Model_231 : (Jvm.Cond.fieldLink "RowForgeModel" (231 : Nat) "RowForgeModel" "thrown" "I") ∈ TB := tq9 176 rfl rfl
theorem lk_Law_160 : (Jvm.Cond.methodLink "RowForgeLaw" (160 : Nat) ({ cls := "RowForgeModel", name := "thrown", desc := "()I" } : Jvm.MethodName)) ∈ TB := tq10 127 rfl rfl
theorem lk_Law_159 : (Jvm.Cond.methodLink "RowForgeLaw" (159 : Nat) ({ cls := "RowForgeModel", name := "table", desc := "(I)I" } : Jvm.MethodName)) ∈ TB := tq10 131 rfl rfl
theorem lk_Model_235 : (Jvm.Cond.methodLink "RowForgeModel" (235 : Nat) ({ cls := "RowForgeModel", name := "isIn", desc := "(III)Z" } : Jvm.MethodName)) ∈ TB := tq10 135 rfl rfl
theorem lk_Model_250 : (Jvm.Cond.methodLink "RowForgeModel" (250 : Nat) ({ cls := "RowForgeModel", name := "isUnderWay", desc := "()Z" } : Jvm.MethodName)) ∈ TB := tq10 138 rfl rfl
theorem lk_Model_254 : (Jvm.Cond.methodLink "RowForgeModel" (254 : Nat) ({ cls := "RowForgeModel", name := "fails", desc := "(I)Z" } : Jvm.MethodName)) ∈ TB := tq10 142 rfl rfl
theorem lk_Model_257 : (Jvm.Cond.methodLink "RowForgeModel" (257 : Nat) ({ cls := "RowForgeModel", name := "throwsPlans", desc := "()V" } : Jvm.MethodName)) ∈ TB := tq10 146 rfl rfl
theorem lk_Law_166 : (Jvm.Cond.methodLink "RowForgeLaw" (166 : Nat) ({ cls := "RowForgeModel", name := "check", desc := "(IIII)I" } : Jvm.MethodName)) ∈ TB := tq10 150 rfl rfl
theorem lk_Model_260 : (Jvm.Cond.methodLink "RowForgeModel" (260 : Nat) ({ cls := "RowForgeModel", name := "isColumn", desc := "(II)Z" } : Jvm.MethodName)) ∈ TB := tq10 154 rfl rfl
theorem lk_Model_242 : (Jvm.Cond.methodLink "RowForgeModel" (242 : Nat) ({ cls := "RowForgeModel", name := "isTable", desc := "(I)Z" } : Jvm.MethodName)) ∈ TB := tq10 158 rfl rfl
theorem lk_Model_264 : (Jvm.Cond.methodLink "RowForgeModel" (264 : Nat) ({ cls := "RowForgeModel", name := "isHow", desc := "(I)Z" } : Jvm.MethodName)) ∈ TB := tq10 162 rfl rfl
theorem lk_Model_267 : (Jvm.Cond.methodLink "RowForgeModel" (267 : Nat) ({ cls := "RowForgeModel", name := "isValue", desc := "(I)Z" } : Jvm.MethodName)) ∈ TB := tq10 165 rfl rfl
theorem lk_Law_170 : (Jvm.Cond.methodLink "RowForgeLaw" (170 : Nat) ({ cls := "RowForgeModel", name := "refer", desc := "(IIII)V" } : Jvm.MethodName)) ∈ TB := tq10 168 rfl rfl
theorem lk_Law_174 : (Jvm.Cond.methodLink "RowForgeLaw" (174 : Nat) ({ cls := "RowForgeModel", name := "veil", desc := "(IIIII)I" } : Jvm.MethodName)) ∈ TB := tq10 172 rfl rfl
theorem lk_Law_177 : (Jvm.Cond.methodLink "RowForgeLaw" (177 : Nat) ({ cls := "RowForgeModel", name := "begin", desc := "(I)I" } : Jvm.MethodName)) ∈ TB := tq10 176 rfl rfl
theorem lk_Model_277 : (Jvm.Cond.methodLink "RowForgeModel" (277 : Nat) ({ cls := "RowForgeModel", name := "copiesRow", desc := "(IIIII)V" } : Jvm.MethodName)) ∈ TB := tq10 180 rfl rfl
theorem lk_Model_273 : (Jvm.Cond.methodLink "RowForgeModel" (273 : Nat) ({ cls := "RowForgeModel", name := "cell", desc := "(IIII)I" } : Jvm.MethodName)) ∈ TB := tq10 184 rfl rfl
theorem lk_Law_180 : (Jvm.Cond.methodLink "RowForgeLaw" (180 : Nat) ({ cls := "RowForgeModel", name := "value", desc := "(I)I" } : Jvm.MethodName)) ∈ TB := tq10 187 rfl rfl
theorem lk_Model_246 : (Jvm.Cond.constant "RowForgeModel" (246 : Nat) (-2147483648 : Int32)) ∈ TB := tq10 191 rfl rfl
theorem lk_Law_184 : (Jvm.Cond.methodLink "RowForgeLaw" (184 : Nat) ({ cls := "RowForgeModel", name := "insert", desc := "(II)I" } : Jvm.MethodName)) ∈ TB := tq10 192 rfl rfl
theorem lk_Model_376 : (Jvm.Cond.methodLink "RowForgeModel" (376 : Nat) ({ cls := "RowForgeModel", name := "isTransaction", desc := "(I)Z" } : Jvm.MethodName)) ∈ TB := tq10 196 rfl rfl
theorem lk_Model_379 : (Jvm.Cond.methodLink "RowForgeModel" (379 : Nat) ({ cls := "RowForgeModel", name := "acts", desc := "(III)I" } : Jvm.MethodName)) ∈ TB := tq10 200 rfl rfl
theorem lk_Model_370 : (Jvm.Cond.methodLink "RowForgeModel" (370 : Nat) ({ cls := "RowForgeModel", name := "tries", desc := "(I)I" } : Jvm.MethodName)) ∈ TB := tq10 204 rfl rfl
theorem lk_Model_347 : (Jvm.Cond.methodLink "RowForgeModel" (347 : Nat) ({ cls := "RowForgeModel", name := "wantsInsert", desc := "(I)Z" } : Jvm.MethodName)) ∈ TB := tq10 208 rfl rfl
theorem lk_Model_308 : (Jvm.Cond.methodLink "RowForgeModel" (308 : Nat) ({ cls := "RowForgeModel", name := "readsKey", desc := "(III)V" } : Jvm.MethodName)) ∈ TB := tq10 212 rfl rfl
theorem lk_Model_291 : (Jvm.Cond.methodLink "RowForgeModel" (291 : Nat) ({ cls := "RowForgeModel", name := "hasReadKey", desc := "(III)Z" } : Jvm.MethodName)) ∈ TB := tq10 216 rfl rfl
theorem lk_Model_315 : (Jvm.Cond.methodLink "RowForgeModel" (315 : Nat) ({ cls := "RowForgeModel", name := "readsReference", desc := "(IIII)V" } : Jvm.MethodName)) ∈ TB := tq10 220 rfl rfl
theorem lk_Model_305 : (Jvm.Cond.methodLink "RowForgeModel" (305 : Nat) ({ cls := "RowForgeModel", name := "find", desc := "(III)I" } : Jvm.MethodName)) ∈ TB := tq10 224 rfl rfl
theorem lk_Model_318 : (Jvm.Cond.methodLink "RowForgeModel" (318 : Nat) ({ cls := "RowForgeModel", name := "isAllowed", desc := "(IIII)Z" } : Jvm.MethodName)) ∈ TB := tq10 228 rfl rfl
theorem lk_Model_281 : (Jvm.Cond.methodLink "RowForgeModel" (281 : Nat) ({ cls := "RowForgeModel", name := "compares", desc := "(III)I" } : Jvm.MethodName)) ∈ TB := tq10 232 rfl rfl
theorem lk_Model_322 : (Jvm.Cond.methodLink "RowForgeModel" (322 : Nat) ({ cls := "RowForgeModel", name := "wants", desc := "(II)V" } : Jvm.MethodName)) ∈ TB := tq10 235 rfl rfl
theorem lk_Model_350 : (Jvm.Cond.methodLink "RowForgeModel" (350 : Nat) ({ cls := "RowForgeModel", name := "wantsUpdate", desc := "(I)Z" } : Jvm.MethodName)) ∈ TB := tq10 239 rfl rfl
theorem lk_Model_325 : (Jvm.Cond.methodLink "RowForgeModel" (325 : Nat) ({ cls := "RowForgeModel", name := "isSeen", desc := "(IIII)Z" } : Jvm.MethodName)) ∈ TB := tq11 3 rfl rfl
theorem lk_Model_353 : (Jvm.Cond.methodLink "RowForgeModel" (353 : Nat) ({ cls := "RowForgeModel", name := "wantsDelete", desc := "(I)Z" } : Jvm.MethodName)) ∈ TB := tq11 7 rfl rfl
theorem lk_Model_331 : (Jvm.Cond.methodLink "RowForgeModel" (331 : Nat) ({ cls := "RowForgeModel", name := "refers", desc := "(IIII)Z" } : Jvm.MethodName)) ∈ TB := tq11 11 rfl rfl
theorem lk_Model_328 : (Jvm.Cond.methodLink "RowForgeModel" (328 : Nat) ({ cls := "RowForgeModel", name := "isBroken", desc := "(IIII)Z" } : Jvm.MethodName)) ∈ TB := tq11 15 rfl rfl
theorem lk_Model_334 : (Jvm.Cond.methodLink "RowForgeModel" (334 : Nat) ({ cls := "RowForgeModel", name := "readsReferrers", desc := "(II)V" } : Jvm.MethodName)) ∈ TB := tq11 19 rfl rfl
theorem lk_Model_337 : (Jvm.Cond.methodLink "RowForgeModel" (337 : Nat) ({ cls := "RowForgeModel", name := "sortsWrites", desc := "()V" } : Jvm.MethodName)) ∈ TB := tq11 23 rfl rfl
theorem lk_Model_356 : (Jvm.Cond.methodLink "RowForgeModel" (356 : Nat) ({ cls := "RowForgeModel", name := "writer", desc := "(III)I" } : Jvm.MethodName)) ∈ TB := tq11 27 rfl rfl
theorem lk_Model_359 : (Jvm.Cond.methodLink "RowForgeModel" (359 : Nat) ({ cls := "RowForgeModel", name := "aborts", desc := "(I)I" } : Jvm.MethodName)) ∈ TB := tq11 31 rfl rfl
theorem lk_Model_297 : (Jvm.Cond.methodLink "RowForgeModel" (297 : Nat) ({ cls := "RowForgeModel", name := "notes", desc := "(IIII)V" } : Jvm.MethodName)) ∈ TB := tq11 35 rfl rfl
theorem lk_Model_301 : (Jvm.Cond.methodLink "RowForgeModel" (301 : Nat) ({ cls := "RowForgeModel", name := "ends", desc := "(II)V" } : Jvm.MethodName)) ∈ TB := tq11 39 rfl rfl
theorem lk_Model_363 : (Jvm.Cond.methodLink "RowForgeModel" (363 : Nat) ({ cls := "RowForgeModel", name := "does", desc := "(I)V" } : Jvm.MethodName)) ∈ TB := tq11 43 rfl rfl
theorem lk_Model_340 : (Jvm.Cond.methodLink "RowForgeModel" (340 : Nat) ({ cls := "RowForgeModel", name := "deletes", desc := "(I)V" } : Jvm.MethodName)) ∈ TB := tq11 47 rfl rfl
theorem lk_Model_344 : (Jvm.Cond.methodLink "RowForgeModel" (344 : Nat) ({ cls := "RowForgeModel", name := "takesOut", desc := "(III)V" } : Jvm.MethodName)) ∈ TB := tq11 51 rfl rfl
theorem lk_Model_373 : (Jvm.Cond.methodLink "RowForgeModel" (373 : Nat) ({ cls := "RowForgeModel", name := "settles", desc := "()V" } : Jvm.MethodName)) ∈ TB := tq11 55 rfl rfl
theorem lk_Model_366 : (Jvm.Cond.methodLink "RowForgeModel" (366 : Nat) ({ cls := "RowForgeModel", name := "nextOf", desc := "()I" } : Jvm.MethodName)) ∈ TB := tq11 59 rfl rfl
theorem lk_Law_187 : (Jvm.Cond.methodLink "RowForgeLaw" (187 : Nat) ({ cls := "RowForgeModel", name := "update", desc := "(IIIII)I" } : Jvm.MethodName)) ∈ TB := tq11 63 rfl rfl
theorem lk_Law_191 : (Jvm.Cond.methodLink "RowForgeLaw" (191 : Nat) ({ cls := "RowForgeModel", name := "delete", desc := "(III)I" } : Jvm.MethodName)) ∈ TB := tq11 67 rfl rfl
theorem lk_Law_194 : (Jvm.Cond.methodLink "RowForgeLaw" (194 : Nat) ({ cls := "RowForgeModel", name := "commit", desc := "(I)I" } : Jvm.MethodName)) ∈ TB := tq11 71 rfl rfl
theorem lk_Model_385 : (Jvm.Cond.methodLink "RowForgeModel" (385 : Nat) ({ cls := "RowForgeModel", name := "isOld", desc := "(I)Z" } : Jvm.MethodName)) ∈ TB := tq11 75 rfl rfl
theorem lk_Model_388 : (Jvm.Cond.methodLink "RowForgeModel" (388 : Nat) ({ cls := "RowForgeModel", name := "isTooMuch", desc := "(I)Z" } : Jvm.MethodName)) ∈ TB := tq11 79 rfl rfl
theorem lk_Model_382 : (Jvm.Cond.methodLink "RowForgeModel" (382 : Nat) ({ cls := "RowForgeModel", name := "isFirstWrite", desc := "(I)Z" } : Jvm.MethodName)) ∈ TB := tq11 83 rfl rfl
theorem lk_Model_391 : (Jvm.Cond.methodLink "RowForgeModel" (391 : Nat) ({ cls := "RowForgeModel", name := "commits", desc := "(III)V" } : Jvm.MethodName)) ∈ TB := tq11 87 rfl rfl
theorem lk_Law_197 : (Jvm.Cond.methodLink "RowForgeLaw" (197 : Nat) ({ cls := "RowForgeModel", name := "abort", desc := "(I)I" } : Jvm.MethodName)) ∈ TB := tq11 91 rfl rfl
theorem lk_Law_200 : (Jvm.Cond.methodLink "RowForgeLaw" (200 : Nat) ({ cls := "RowForgeModel", name := "state", desc := "(I)I" } : Jvm.MethodName)) ∈ TB := tq11 95 rfl rfl
theorem lk_Law_203 : (Jvm.Cond.methodLink "RowForgeLaw" (203 : Nat) ({ cls := "RowForgeModel", name := "outcome", desc := "(I)I" } : Jvm.MethodName)) ∈ TB := tq11 99 rfl rfl
theorem lk_Law_206 : (Jvm.Cond.methodLink "RowForgeLaw" (206 : Nat) ({ cls := "RowForgeModel", name := "waitsFor", desc := "(I)I" } : Jvm.MethodName)) ∈ TB := tq11 103 rfl rfl
theorem lk_Law_209 : (Jvm.Cond.methodLink "RowForgeLaw" (209 : Nat) ({ cls := "RowForgeModel", name := "hasRead", desc := "(III)Z" } : Jvm.MethodName)) ∈ TB := tq11 107 rfl rfl
theorem lk_Law_212 : (Jvm.Cond.methodLink "RowForgeLaw" (212 : Nat) ({ cls := "RowForgeModel", name := "own", desc := "(IIII)I" } : Jvm.MethodName)) ∈ TB := tq11 111 rfl rfl
theorem lk_Model_397 : (Jvm.Cond.methodLink "RowForgeModel" (397 : Nat) ({ cls := "RowForgeModel", name := "valueAt", desc := "(IIII)I" } : Jvm.MethodName)) ∈ TB := tq11 115 rfl rfl
theorem lk_Law_215 : (Jvm.Cond.methodLink "RowForgeLaw" (215 : Nat) ({ cls := "RowForgeModel", name := "committed", desc := "(III)I" } : Jvm.MethodName)) ∈ TB := tq11 119 rfl rfl
theorem lk_Model_400 : (Jvm.Cond.methodLink "RowForgeModel" (400 : Nat) ({ cls := "RowForgeModel", name := "settled", desc := "(III)I" } : Jvm.MethodName)) ∈ TB := tq11 123 rfl rfl
theorem lk_Law_218 : (Jvm.Cond.methodLink "RowForgeLaw" (218 : Nat) ({ cls := "RowForgeModel", name := "committedByLog", desc := "(III)I" } : Jvm.MethodName)) ∈ TB := tq11 127 rfl rfl
theorem lk_Law_221 : (Jvm.Cond.methodLink "RowForgeLaw" (221 : Nat) ({ cls := "RowForgeModel", name := "rowsOf", desc := "(I)I" } : Jvm.MethodName)) ∈ TB := tq11 131 rfl rfl
theorem lk_Law_224 : (Jvm.Cond.methodLink "RowForgeLaw" (224 : Nat) ({ cls := "RowForgeModel", name := "scan", desc := "(I)I" } : Jvm.MethodName)) ∈ TB := tq11 135 rfl rfl
theorem lk_Model_409 : (Jvm.Cond.methodLink "RowForgeModel" (409 : Nat) ({ cls := "RowForgeModel", name := "isFull", desc := "()Z" } : Jvm.MethodName)) ∈ TB := tq11 139 rfl rfl
theorem lk_Model_415 : (Jvm.Cond.methodLink "RowForgeModel" (415 : Nat) ({ cls := "RowForgeModel", name := "adds", desc := "(IIIIZ)V" } : Jvm.MethodName)) ∈ TB := tq11 143 rfl rfl
theorem lk_Law_228 : (Jvm.Cond.methodLink "RowForgeLaw" (228 : Nat) ({ cls := "RowForgeModel", name := "filter", desc := "(IIIZ)I" } : Jvm.MethodName)) ∈ TB := tq11 147 rfl rfl
theorem lk_Model_419 : (Jvm.Cond.methodLink "RowForgeModel" (419 : Nat) ({ cls := "RowForgeModel", name := "isOfLast", desc := "(I)Z" } : Jvm.MethodName)) ∈ TB := tq11 151 rfl rfl
theorem lk_Law_231 : (Jvm.Cond.methodLink "RowForgeLaw" (231 : Nat) ({ cls := "RowForgeModel", name := "filterColumns", desc := "(IIIZ)I" } : Jvm.MethodName)) ∈ TB := tq11 155 rfl rfl
theorem lk_Law_234 : (Jvm.Cond.methodLink "RowForgeLaw" (234 : Nat) ({ cls := "RowForgeModel", name := "ratio", desc := "(III)I" } : Jvm.MethodName)) ∈ TB := tq11 159 rfl rfl
theorem lk_Law_237 : (Jvm.Cond.methodLink "RowForgeLaw" (237 : Nat) ({ cls := "RowForgeModel", name := "join", desc := "(III)I" } : Jvm.MethodName)) ∈ TB := tq11 163 rfl rfl
theorem lk_Law_240 : (Jvm.Cond.methodLink "RowForgeLaw" (240 : Nat) ({ cls := "RowForgeModel", name := "keep", desc := "(I)I" } : Jvm.MethodName)) ∈ TB := tq11 167 rfl rfl
theorem lk_Model_422 : (Jvm.Cond.methodLink "RowForgeModel" (422 : Nat) ({ cls := "RowForgeModel", name := "counted", desc := "(I)I" } : Jvm.MethodName)) ∈ TB := tq11 171 rfl rfl
theorem lk_Law_243 : (Jvm.Cond.methodLink "RowForgeLaw" (243 : Nat) ({ cls := "RowForgeModel", name := "group", desc := "(III)I" } : Jvm.MethodName)) ∈ TB := tq11 174 rfl rfl
theorem lk_Law_246 : (Jvm.Cond.methodLink "RowForgeLaw" (246 : Nat) ({ cls := "RowForgeModel", name := "combine", desc := "(I)I" } : Jvm.MethodName)) ∈ TB := tq11 178 rfl rfl
theorem lk_Law_250 : (Jvm.Cond.methodLink "RowForgeLaw" (250 : Nat) ({ cls := "RowForgeModel", name := "scrap", desc := "()I" } : Jvm.MethodName)) ∈ TB := tq11 182 rfl rfl
theorem lk_Model_425 : (Jvm.Cond.methodLink "RowForgeModel" (425 : Nat) ({ cls := "RowForgeModel", name := "clears", desc := "()V" } : Jvm.MethodName)) ∈ TB := tq11 186 rfl rfl
theorem lk_Law_254 : (Jvm.Cond.methodLink "RowForgeLaw" (254 : Nat) ({ cls := "RowForgeModel", name := "query", desc := "()I" } : Jvm.MethodName)) ∈ TB := tq11 190 rfl rfl
theorem lk_Model_431 : (Jvm.Cond.methodLink "RowForgeModel" (431 : Nat) ({ cls := "RowForgeModel", name := "base", desc := "(I)I" } : Jvm.MethodName)) ∈ TB := tq11 194 rfl rfl
theorem lk_Law_257 : (Jvm.Cond.methodLink "RowForgeLaw" (257 : Nat) ({ cls := "RowForgeModel", name := "run", desc := "(II)I" } : Jvm.MethodName)) ∈ TB := tq11 197 rfl rfl
theorem lk_Model_486 : (Jvm.Cond.methodLink "RowForgeModel" (486 : Nat) ({ cls := "RowForgeModel", name := "isQuery", desc := "(I)Z" } : Jvm.MethodName)) ∈ TB := tq11 201 rfl rfl
theorem lk_Model_489 : (Jvm.Cond.methodLink "RowForgeModel" (489 : Nat) ({ cls := "RowForgeModel", name := "finds", desc := "(III)V" } : Jvm.MethodName)) ∈ TB := tq11 205 rfl rfl
theorem lk_Model_466 : (Jvm.Cond.methodLink "RowForgeModel" (466 : Nat) ({ cls := "RowForgeModel", name := "scans", desc := "(III)V" } : Jvm.MethodName)) ∈ TB := tq11 209 rfl rfl
theorem lk_Model_437 : (Jvm.Cond.methodLink "RowForgeModel" (437 : Nat) ({ cls := "RowForgeModel", name := "top", desc := "()I" } : Jvm.MethodName)) ∈ TB := tq11 213 rfl rfl
theorem lk_Model_468 : (Jvm.Cond.methodLink "RowForgeModel" (468 : Nat) ({ cls := "RowForgeModel", name := "filters", desc := "(I)V" } : Jvm.MethodName)) ∈ TB := tq11 217 rfl rfl
theorem lk_Model_444 : (Jvm.Cond.methodLink "RowForgeModel" (444 : Nat) ({ cls := "RowForgeModel", name := "stays", desc := "(II)Z" } : Jvm.MethodName)) ∈ TB := tq11 221 rfl rfl
theorem lk_Model_471 : (Jvm.Cond.methodLink "RowForgeModel" (471 : Nat) ({ cls := "RowForgeModel", name := "joins", desc := "(I)V" } : Jvm.MethodName)) ∈ TB := tq11 225 rfl rfl
theorem lk_Model_457 : (Jvm.Cond.methodLink "RowForgeModel" (457 : Nat) ({ cls := "RowForgeModel", name := "lays", desc := "(IIIII)V" } : Jvm.MethodName)) ∈ TB := tq11 229 rfl rfl
theorem lk_Model_450 : (Jvm.Cond.methodLink "RowForgeModel" (450 : Nat) ({ cls := "RowForgeModel", name := "takes", desc := "(IIII)V" } : Jvm.MethodName)) ∈ TB := tq11 233 rfl rfl
theorem lk_Model_474 : (Jvm.Cond.methodLink "RowForgeModel" (474 : Nat) ({ cls := "RowForgeModel", name := "keeps", desc := "(I)V" } : Jvm.MethodName)) ∈ TB := tq11 237 rfl rfl
theorem lk_Model_477 : (Jvm.Cond.methodLink "RowForgeModel" (477 : Nat) ({ cls := "RowForgeModel", name := "groups", desc := "(I)V" } : Jvm.MethodName)) ∈ TB := tq12 1 rfl rfl
theorem lk_Model_447 : (Jvm.Cond.methodLink "RowForgeModel" (447 : Nat) ({ cls := "RowForgeModel", name := "gathered", desc := "(III)I" } : Jvm.MethodName)) ∈ TB := tq12 5 rfl rfl
theorem lk_Model_453 : (Jvm.Cond.methodLink "RowForgeModel" (453 : Nat) ({ cls := "RowForgeModel", name := "least", desc := "(II)I" } : Jvm.MethodName)) ∈ TB := tq12 8 rfl rfl
theorem lk_Model_480 : (Jvm.Cond.methodLink "RowForgeModel" (480 : Nat) ({ cls := "RowForgeModel", name := "combines", desc := "(I)V" } : Jvm.MethodName)) ∈ TB := tq12 11 rfl rfl
theorem lk_Model_460 : (Jvm.Cond.methodLink "RowForgeModel" (460 : Nat) ({ cls := "RowForgeModel", name := "hasRow", desc := "(IIII)Z" } : Jvm.MethodName)) ∈ TB := tq12 15 rfl rfl
theorem lk_Model_483 : (Jvm.Cond.methodLink "RowForgeModel" (483 : Nat) ({ cls := "RowForgeModel", name := "sorts", desc := "()V" } : Jvm.MethodName)) ∈ TB := tq12 19 rfl rfl
theorem lk_Model_463 : (Jvm.Cond.methodLink "RowForgeModel" (463 : Nat) ({ cls := "RowForgeModel", name := "isAhead", desc := "(III)Z" } : Jvm.MethodName)) ∈ TB := tq12 23 rfl rfl
theorem lk_Model_492 : (Jvm.Cond.methodLink "RowForgeModel" (492 : Nat) ({ cls := "RowForgeModel", name := "readsAll", desc := "(II)V" } : Jvm.MethodName)) ∈ TB := tq12 27 rfl rfl
theorem lk_Law_260 : (Jvm.Cond.methodLink "RowForgeLaw" (260 : Nat) ({ cls := "RowForgeModel", name := "at", desc := "(II)I" } : Jvm.MethodName)) ∈ TB := tq12 31 rfl rfl
theorem lk_Law_263 : (Jvm.Cond.methodLink "RowForgeLaw" (263 : Nat) ({ cls := "RowForgeModel", name := "atByLoops", desc := "(IIII)I" } : Jvm.MethodName)) ∈ TB := tq12 35 rfl rfl
theorem lk_Law_267 : (Jvm.Cond.methodLink "RowForgeLaw" (267 : Nat) ({ cls := "RowForgeModel", name := "analyze", desc := "()I" } : Jvm.MethodName)) ∈ TB := tq12 39 rfl rfl
theorem lk_Model_501 : (Jvm.Cond.methodLink "RowForgeModel" (501 : Nat) ({ cls := "RowForgeModel", name := "differing", desc := "(II)I" } : Jvm.MethodName)) ∈ TB := tq12 43 rfl rfl
theorem lk_Law_270 : (Jvm.Cond.methodLink "RowForgeLaw" (270 : Nat) ({ cls := "RowForgeModel", name := "prepare", desc := "(I)I" } : Jvm.MethodName)) ∈ TB := tq12 47 rfl rfl
theorem lk_Model_527 : (Jvm.Cond.methodLink "RowForgeModel" (527 : Nat) ({ cls := "RowForgeModel", name := "findsNodes", desc := "(I)V" } : Jvm.MethodName)) ∈ TB := tq12 51 rfl rfl
theorem lk_Model_530 : (Jvm.Cond.methodLink "RowForgeModel" (530 : Nat) ({ cls := "RowForgeModel", name := "firstJoin", desc := "(I)I" } : Jvm.MethodName)) ∈ TB := tq12 55 rfl rfl
theorem lk_Model_504 : (Jvm.Cond.methodLink "RowForgeModel" (504 : Nat) ({ cls := "RowForgeModel", name := "isFilter", desc := "(I)Z" } : Jvm.MethodName)) ∈ TB := tq12 59 rfl rfl
theorem lk_Model_507 : (Jvm.Cond.methodLink "RowForgeModel" (507 : Nat) ({ cls := "RowForgeModel", name := "isInner", desc := "(II)Z" } : Jvm.MethodName)) ∈ TB := tq12 62 rfl rfl
theorem lk_Model_533 : (Jvm.Cond.methodLink "RowForgeModel" (533 : Nat) ({ cls := "RowForgeModel", name := "findsBlock", desc := "(II)V" } : Jvm.MethodName)) ∈ TB := tq12 66 rfl rfl
theorem lk_Model_515 : (Jvm.Cond.constantLong "RowForgeModel" (515 : Nat) (10 : Int64)) ∈ TB := tq12 70 rfl rfl
theorem lk_Model_536 : (Jvm.Cond.methodLink "RowForgeModel" (536 : Nat) ({ cls := "RowForgeModel", name := "passes", desc := "(II)V" } : Jvm.MethodName)) ∈ TB := tq12 71 rfl rfl
theorem lk_Model_517 : (Jvm.Cond.methodLink "RowForgeModel" (517 : Nat) ({ cls := "RowForgeModel", name := "leafOf", desc := "(I)I" } : Jvm.MethodName)) ∈ TB := tq12 75 rfl rfl
theorem lk_Model_520 : (Jvm.Cond.methodLink "RowForgeModel" (520 : Nat) ({ cls := "RowForgeModel", name := "valuesOf", desc := "(II)I" } : Jvm.MethodName)) ∈ TB := tq12 79 rfl rfl
theorem lk_Model_523 : (Jvm.Cond.methodLink "RowForgeModel" (523 : Nat) ({ cls := "RowForgeModel", name := "divided", desc := "(JI)J" } : Jvm.MethodName)) ∈ TB := tq12 83 rfl rfl
theorem lk_Model_539 : (Jvm.Cond.constantLong "RowForgeModel" (539 : Nat) (-1 : Int64)) ∈ TB := tq12 86 rfl rfl
theorem lk_Model_541 : (Jvm.Cond.methodLink "RowForgeModel" (541 : Nat) ({ cls := "RowForgeModel", name := "orderAt", desc := "(I)I" } : Jvm.MethodName)) ∈ TB := tq12 87 rfl rfl
theorem lk_Model_544 : (Jvm.Cond.methodLink "RowForgeModel" (544 : Nat) ({ cls := "RowForgeModel", name := "isOrder", desc := "(I)Z" } : Jvm.MethodName)) ∈ TB := tq12 91 rfl rfl
theorem lk_Model_547 : (Jvm.Cond.methodLink "RowForgeModel" (547 : Nat) ({ cls := "RowForgeModel", name := "costOf", desc := "(II)J" } : Jvm.MethodName)) ∈ TB := tq12 95 rfl rfl
theorem lk_Law_273 : (Jvm.Cond.methodLink "RowForgeLaw" (273 : Nat) ({ cls := "RowForgeModel", name := "planAt", desc := "(II)I" } : Jvm.MethodName)) ∈ TB := tq12 99 rfl rfl
theorem lk_Law_277 : (Jvm.Cond.methodLink "RowForgeLaw" (277 : Nat) ({ cls := "RowForgeModel", name := "planned", desc := "()I" } : Jvm.MethodName)) ∈ TB := tq12 103 rfl rfl
theorem lk_Model_554 : (Jvm.Cond.methodLink "RowForgeModel" (554 : Nat) ({ cls := "RowForgeModel", name := "tells", desc := "(I)I" } : Jvm.MethodName)) ∈ TB := tq12 107 rfl rfl
theorem lk_Law_280 : (Jvm.Cond.methodLink "RowForgeLaw" (280 : Nat) ({ cls := "RowForgeModel", name := "view", desc := "(I)I" } : Jvm.MethodName)) ∈ TB := tq12 111 rfl rfl
theorem lk_Model_560 : (Jvm.Cond.methodLink "RowForgeModel" (560 : Nat) ({ cls := "RowForgeModel", name := "canBeView", desc := "(I)Z" } : Jvm.MethodName)) ∈ TB := tq12 115 rfl rfl
theorem lk_Law_283 : (Jvm.Cond.methodLink "RowForgeLaw" (283 : Nat) ({ cls := "RowForgeModel", name := "viewRows", desc := "(I)I" } : Jvm.MethodName)) ∈ TB := tq12 119 rfl rfl
theorem lk_Model_563 : (Jvm.Cond.methodLink "RowForgeModel" (563 : Nat) ({ cls := "RowForgeModel", name := "isView", desc := "(I)Z" } : Jvm.MethodName)) ∈ TB := tq12 123 rfl rfl
theorem lk_Law_286 : (Jvm.Cond.methodLink "RowForgeLaw" (286 : Nat) ({ cls := "RowForgeModel", name := "viewAt", desc := "(III)I" } : Jvm.MethodName)) ∈ TB := tq12 127 rfl rfl
theorem lk_Model_566 : (Jvm.Cond.methodLink "RowForgeModel" (566 : Nat) ({ cls := "RowForgeModel", name := "viewed", desc := "(III)I" } : Jvm.MethodName)) ∈ TB := tq12 131 rfl rfl
theorem lk_Law_289 : (Jvm.Cond.methodLink "RowForgeLaw" (289 : Nat) ({ cls := "RowForgeModel", name := "viewAnew", desc := "(III)I" } : Jvm.MethodName)) ∈ TB := tq12 135 rfl rfl
theorem lk_Law_293 : (Jvm.Cond.methodLink "RowForgeLaw" (293 : Nat) ({ cls := "RowForgeModel", name := "checkpoint", desc := "()I" } : Jvm.MethodName)) ∈ TB := tq12 139 rfl rfl
theorem lk_Law_296 : (Jvm.Cond.methodLink "RowForgeLaw" (296 : Nat) ({ cls := "RowForgeModel", name := "crash", desc := "(I)I" } : Jvm.MethodName)) ∈ TB := tq12 143 rfl rfl
theorem lk_Model_569 : (Jvm.Cond.methodLink "RowForgeModel" (569 : Nat) ({ cls := "RowForgeModel", name := "hasRecord", desc := "(II)Z" } : Jvm.MethodName)) ∈ TB := tq12 147 rfl rfl
theorem lk_Model_572 : (Jvm.Cond.methodLink "RowForgeModel" (572 : Nat) ({ cls := "RowForgeModel", name := "undoes", desc := "(I)I" } : Jvm.MethodName)) ∈ TB := tq12 151 rfl rfl
theorem lk_Law_300 : (Jvm.Cond.methodLink "RowForgeLaw" (300 : Nat) ({ cls := "RowForgeModel", name := "records", desc := "()I" } : Jvm.MethodName)) ∈ TB := tq12 155 rfl rfl
theorem lk_Law_304 : (Jvm.Cond.methodLink "RowForgeLaw" (304 : Nat) ({ cls := "RowForgeModel", name := "flushed", desc := "()I" } : Jvm.MethodName)) ∈ TB := tq12 159 rfl rfl
theorem lk_Law_307 : (Jvm.Cond.methodLink "RowForgeLaw" (307 : Nat) ({ cls := "RowForgeModel", name := "recordKind", desc := "(I)I" } : Jvm.MethodName)) ∈ TB := tq12 163 rfl rfl
theorem lk_Model_575 : (Jvm.Cond.methodLink "RowForgeModel" (575 : Nat) ({ cls := "RowForgeModel", name := "isRecord", desc := "(I)Z" } : Jvm.MethodName)) ∈ TB := tq12 167 rfl rfl
theorem lk_Law_310 : (Jvm.Cond.methodLink "RowForgeLaw" (310 : Nat) ({ cls := "RowForgeModel", name := "recordOf", desc := "(I)I" } : Jvm.MethodName)) ∈ TB := tq12 171 rfl rfl
theorem lk_Law_314 : (Jvm.Cond.methodLink "RowForgeLaw" (314 : Nat) ({ cls := "RowForgeModel", name := "recordAt", desc := "(IZ)I" } : Jvm.MethodName)) ∈ TB := tq12 175 rfl rfl
theorem kw_initialized_RowForgeLaw : (Jvm.Cond.initialized "RowForgeLaw") ∈ TB := tq1 0 rfl rfl
theorem kw_initialized_RowForge : (Jvm.Cond.initialized "RowForge") ∈ TB := tq1 1 rfl rfl
theorem kw_initialized_RowForge_Schema : (Jvm.Cond.initialized "RowForge$Schema") ∈ TB := tq1 2 rfl rfl
theorem kw_initialized_java_util_Arrays : (Jvm.Cond.initialized "java/util/Arrays") ∈ TB := tq1 3 rfl rfl
theorem kw_initialized_RowForge_Engine : (Jvm.Cond.initialized "RowForge$Engine") ∈ TB := tq1 4 rfl rfl
theorem kw_initialized_RowForge_Rows : (Jvm.Cond.initialized "RowForge$Rows") ∈ TB := tq1 5 rfl rfl
theorem kw_initialized_java_util_AbstractCollection : (Jvm.Cond.initialized "java/util/AbstractCollection") ∈ TB := tq1 6 rfl rfl
theorem kw_initialized_java_util_AbstractList : (Jvm.Cond.initialized "java/util/AbstractList") ∈ TB := tq1 7 rfl rfl
theorem kw_initialized_java_util_ArrayList : (Jvm.Cond.initialized "java/util/ArrayList") ∈ TB := tq1 8 rfl rfl
theorem kw_initialized_RowForge_Log : (Jvm.Cond.initialized "RowForge$Log") ∈ TB := tq1 9 rfl rfl
theorem kw_initialized_RowForge_Trial : (Jvm.Cond.initialized "RowForge$Trial") ∈ TB := tq1 10 rfl rfl
theorem kw_initialized_RowForge_Evaluator : (Jvm.Cond.initialized "RowForge$Evaluator") ∈ TB := tq1 11 rfl rfl
theorem kw_initialized_RowForge_Relation : (Jvm.Cond.initialized "RowForge$Relation") ∈ TB := tq1 12 rfl rfl
theorem kw_initialized_RowForge_Planner : (Jvm.Cond.initialized "RowForge$Planner") ∈ TB := tq1 13 rfl rfl
theorem kw_initialized_RowForge_Query : (Jvm.Cond.initialized "RowForge$Query") ∈ TB := tq1 14 rfl rfl
theorem kw_initialized_RowForgeModel : (Jvm.Cond.initialized "RowForgeModel") ∈ TB := tq1 15 rfl rfl
theorem kw_initialized_java_lang_Throwable : (Jvm.Cond.initialized "java/lang/Throwable") ∈ TB := tq1 16 rfl rfl
theorem kw_initialized_java_lang_Exception : (Jvm.Cond.initialized "java/lang/Exception") ∈ TB := tq1 17 rfl rfl
theorem kw_initialized_java_lang_RuntimeException : (Jvm.Cond.initialized "java/lang/RuntimeException") ∈ TB := tq1 18 rfl rfl
theorem kw_initialized_java_lang_IllegalArgumentException : (Jvm.Cond.initialized "java/lang/IllegalArgumentException") ∈ TB := tq1 19 rfl rfl
theorem kw_initialized_java_util_Objects : (Jvm.Cond.initialized "java/util/Objects") ∈ TB := tq1 20 rfl rfl
theorem kw_initialized_jdk_internal_util_Preconditions : (Jvm.Cond.initialized "jdk/internal/util/Preconditions") ∈ TB := tq1 21 rfl rfl
theorem kw_initialized_java_lang_IllegalStateException : (Jvm.Cond.initialized "java/lang/IllegalStateException") ∈ TB := tq1 22 rfl rfl
theorem kw_initialized_java_lang_IndexOutOfBoundsException : (Jvm.Cond.initialized "java/lang/IndexOutOfBoundsException") ∈ TB := tq1 23 rfl rfl
theorem kw_initialized_java_lang_ArrayIndexOutOfBoundsException : (Jvm.Cond.initialized "java/lang/ArrayIndexOutOfBoundsException") ∈ TB := tq1 24 rfl rfl
theorem kw_initialized_java_lang_String : (Jvm.Cond.initialized "java/lang/String") ∈ TB := tq1 25 rfl rfl
theorem kw_initialized_RowForge_Transaction : (Jvm.Cond.initialized "RowForge$Transaction") ∈ TB := tq1 26 rfl rfl
theorem kw_initialized_java_lang_System : (Jvm.Cond.initialized "java/lang/System") ∈ TB := tq1 27 rfl rfl
theorem kw_initialized_jdk_internal_util_ArraysSupport : (Jvm.Cond.initialized "jdk/internal/util/ArraysSupport") ∈ TB := tq1 28 rfl rfl
theorem kw_initialized_java_lang_Math : (Jvm.Cond.initialized "java/lang/Math") ∈ TB := tq1 29 rfl rfl
theorem kw_initialized_java_lang_Number : (Jvm.Cond.initialized "java/lang/Number") ∈ TB := tq1 30 rfl rfl
theorem kw_initialized_java_lang_Integer : (Jvm.Cond.initialized "java/lang/Integer") ∈ TB := tq1 31 rfl rfl
theorem kw_initialized_java_lang_AbstractStringBuilder : (Jvm.Cond.initialized "java/lang/AbstractStringBuilder") ∈ TB := tq1 32 rfl rfl
theorem kw_initialized_java_lang_StringBuilder : (Jvm.Cond.initialized "java/lang/StringBuilder") ∈ TB := tq1 33 rfl rfl
theorem kw_initialized_java_lang_StringUTF16 : (Jvm.Cond.initialized "java/lang/StringUTF16") ∈ TB := tq1 34 rfl rfl
theorem kw_initialized_java_lang_StringLatin1 : (Jvm.Cond.initialized "java/lang/StringLatin1") ∈ TB := tq1 35 rfl rfl
theorem kw_initialized_java_lang_ArithmeticException : (Jvm.Cond.initialized "java/lang/ArithmeticException") ∈ TB := tq1 36 rfl rfl
theorem kw_instantiable_RowForge_11 : (Jvm.Cond.instantiable "RowForge" (11 : Nat)) ∈ TB := tq1 38 rfl rfl
theorem kw_instantiable_RowForge_Schema_8 : (Jvm.Cond.instantiable "RowForge$Schema" (8 : Nat)) ∈ TB := tq1 46 rfl rfl
theorem kw_arrayClass_int : (Jvm.Cond.arrayClass Jvm.ClassFile.FieldType.int) ∈ TB := tq1 89 rfl rfl
theorem kw_instantiable_RowForge_Engine_8 : (Jvm.Cond.instantiable "RowForge$Engine" (8 : Nat)) ∈ TB := tq1 91 rfl rfl
theorem kw_instantiable_RowForge_Rows_1 : (Jvm.Cond.instantiable "RowForge$Rows" (1 : Nat)) ∈ TB := tq1 97 rfl rfl
theorem kw_instantiable_java_util_ArrayList_3 : (Jvm.Cond.instantiable "java/util/ArrayList" (3 : Nat)) ∈ TB := tq1 114 rfl rfl
theorem kw_instantiable_RowForge_Log_5 : (Jvm.Cond.instantiable "RowForge$Log" (5 : Nat)) ∈ TB := tq1 140 rfl rfl
theorem kw_arrayClass_boolean : (Jvm.Cond.arrayClass Jvm.ClassFile.FieldType.boolean) ∈ TB := tq1 164 rfl rfl
theorem kw_instantiable_RowForge_Trial_8 : (Jvm.Cond.instantiable "RowForge$Trial" (8 : Nat)) ∈ TB := tq1 166 rfl rfl
theorem kw_instantiable_RowForge_Evaluator_7 : (Jvm.Cond.instantiable "RowForge$Evaluator" (7 : Nat)) ∈ TB := tq1 232 rfl rfl
theorem kw_instantiable_RowForge_Relation_3 : (Jvm.Cond.instantiable "RowForge$Relation" (3 : Nat)) ∈ TB := tq1 239 rfl rfl
theorem kw_instantiable_RowForge_Planner_14 : (Jvm.Cond.instantiable "RowForge$Planner" (14 : Nat)) ∈ TB := tq2 41 rfl rfl
theorem kw_instantiable_RowForge_Query_13 : (Jvm.Cond.instantiable "RowForge$Query" (13 : Nat)) ∈ TB := tq2 95 rfl rfl
theorem kw_instantiable_java_lang_IllegalArgumentException_6 : (Jvm.Cond.instantiable "java/lang/IllegalArgumentException" (6 : Nat)) ∈ TB := tq3 40 rfl rfl
theorem kw_instantiable_java_lang_Throwable_6 : (Jvm.Cond.instantiable "java/lang/Throwable" (6 : Nat)) ∈ TB := tq3 80 rfl rfl
theorem kw_instantiable_java_lang_StringBuilder_4 : (Jvm.Cond.instantiable "java/lang/StringBuilder" (4 : Nat)) ∈ TB := tq3 83 rfl rfl
theorem kw_arrayClass_byte : (Jvm.Cond.arrayClass Jvm.ClassFile.FieldType.byte) ∈ TB := tq3 113 rfl rfl
theorem kw_instantiable_java_lang_String_4 : (Jvm.Cond.instantiable "java/lang/String" (4 : Nat)) ∈ TB := tq4 19 rfl rfl
theorem kw_instantiable_java_lang_ArrayIndexOutOfBoundsException_6 : (Jvm.Cond.instantiable "java/lang/ArrayIndexOutOfBoundsException" (6 : Nat)) ∈ TB := tq4 101 rfl rfl
theorem kw_instantiable_java_lang_IllegalStateException_6 : (Jvm.Cond.instantiable "java/lang/IllegalStateException" (6 : Nat)) ∈ TB := tq4 180 rfl rfl
theorem kw_instantiable_java_lang_IndexOutOfBoundsException_6 : (Jvm.Cond.instantiable "java/lang/IndexOutOfBoundsException" (6 : Nat)) ∈ TB := tq4 220 rfl rfl
theorem kw_instantiable_RowForge_Transaction_19 : (Jvm.Cond.instantiable "RowForge$Transaction" (19 : Nat)) ∈ TB := tq5 44 rfl rfl
theorem kw_instantiable_java_lang_ArithmeticException_6 : (Jvm.Cond.instantiable "java/lang/ArithmeticException" (6 : Nat)) ∈ TB := tq8 80 rfl rfl
theorem kw_instantiable_RowForgeModel_94 : (Jvm.Cond.instantiable "RowForgeModel" (94 : Nat)) ∈ TB := tq9 76 rfl rfl
theorem kw_arrayClass_long : (Jvm.Cond.arrayClass Jvm.ClassFile.FieldType.long) ∈ TB := tq10 126 rfl rfl
abbrev m_F_init : MD := (⟨"RowForge", "<init>", "()V"⟩, prog_1_method_1_code, 1, none, [])
theorem mo_F_init : MOK m_F_init := ⟨tq1 41 rfl rfl, rfl, kw_initialized_RowForge, by decide, by decide⟩
theorem mi_F_init : MI m_F_init 0 := ⟨mo_F_init, by decide +kernel, tq1 40 rfl rfl, rfl, rfl⟩
abbrev m_Schema_init : MD := (⟨"RowForge$Schema", "<init>", "()V"⟩, prog_9_method_1_code, 1, none, [])
theorem mo_Schema_init : MOK m_Schema_init := ⟨tq1 49 rfl rfl, rfl, kw_initialized_RowForge_Schema, by decide, by decide⟩
theorem mi_Schema_init : MI m_Schema_init 0 := ⟨mo_Schema_init, by decide +kernel, tq1 48 rfl rfl, rfl, rfl⟩
abbrev m_java_util_Arrays_fill : MD := (⟨"java/util/Arrays", "fill", "([II)V"⟩, prog_42_method_103_code, 4, none, [])
theorem mo_java_util_Arrays_fill : MOK m_java_util_Arrays_fill := ⟨tq1 53 rfl rfl, rfl, kw_initialized_java_util_Arrays, by decide, by decide⟩
theorem ms_java_util_Arrays_fill : MS m_java_util_Arrays_fill 2 := ⟨mo_java_util_Arrays_fill, by decide +kernel, tq1 52 rfl rfl⟩
abbrev m_Engine_init : MD := (⟨"RowForge$Engine", "<init>", "(LRowForge$Schema;)V"⟩, prog_2_method_1_code, 2, none, [])
theorem mo_Engine_init : MOK m_Engine_init := ⟨tq1 94 rfl rfl, rfl, kw_initialized_RowForge_Engine, by decide, by decide⟩
theorem mi_Engine_init : MI m_Engine_init 1 := ⟨mo_Engine_init, by decide +kernel, tq1 93 rfl rfl, rfl, rfl⟩
abbrev m_Rows_init : MD := (⟨"RowForge$Rows", "<init>", "()V"⟩, prog_8_method_1_code, 1, none, [])
theorem mo_Rows_init : MOK m_Rows_init := ⟨tq1 100 rfl rfl, rfl, kw_initialized_RowForge_Rows, by decide, by decide⟩
theorem mi_Rows_init : MI m_Rows_init 0 := ⟨mo_Rows_init, by decide +kernel, tq1 99 rfl rfl, rfl, rfl⟩
abbrev m_java_util_ArrayList_init : MD := (⟨"java/util/ArrayList", "<init>", "()V"⟩, prog_41_method_2_code, 1, none, [])
theorem mo_java_util_ArrayList_init : MOK m_java_util_ArrayList_init := ⟨tq1 117 rfl rfl, rfl, kw_initialized_java_util_ArrayList, by decide, by decide⟩
theorem mi_java_util_ArrayList_init : MI m_java_util_ArrayList_init 0 := ⟨mo_java_util_ArrayList_init, by decide +kernel, tq1 116 rfl rfl, rfl, rfl⟩
abbrev m_Log_init : MD := (⟨"RowForge$Log", "<init>", "()V"⟩, prog_4_method_1_code, 1, none, [])
theorem mo_Log_init : MOK m_Log_init := ⟨tq1 143 rfl rfl, rfl, kw_initialized_RowForge_Log, by decide, by decide⟩
theorem mi_Log_init : MI m_Log_init 0 := ⟨mo_Log_init, by decide +kernel, tq1 142 rfl rfl, rfl, rfl⟩
abbrev m_Trial_init : MD := (⟨"RowForge$Trial", "<init>", "(LRowForge$Schema;)V"⟩, prog_11_method_1_code, 2, none, [])
theorem mo_Trial_init : MOK m_Trial_init := ⟨tq1 169 rfl rfl, rfl, kw_initialized_RowForge_Trial, by decide, by decide⟩
theorem mi_Trial_init : MI m_Trial_init 1 := ⟨mo_Trial_init, by decide +kernel, tq1 168 rfl rfl, rfl, rfl⟩
abbrev m_Evaluator_init : MD := (⟨"RowForge$Evaluator", "<init>", "(LRowForge$Schema;)V"⟩, prog_3_method_1_code, 3, none, [])
theorem mo_Evaluator_init : MOK m_Evaluator_init := ⟨tq1 235 rfl rfl, rfl, kw_initialized_RowForge_Evaluator, by decide, by decide⟩
theorem mi_Evaluator_init : MI m_Evaluator_init 1 := ⟨mo_Evaluator_init, by decide +kernel, tq1 234 rfl rfl, rfl, rfl⟩
abbrev m_Relation_init : MD := (⟨"RowForge$Relation", "<init>", "()V"⟩, prog_7_method_1_code, 1, none, [])
theorem mo_Relation_init : MOK m_Relation_init := ⟨tq2 2 rfl rfl, rfl, kw_initialized_RowForge_Relation, by decide, by decide⟩
theorem mi_Relation_init : MI m_Relation_init 0 := ⟨mo_Relation_init, by decide +kernel, tq2 1 rfl rfl, rfl, rfl⟩
abbrev m_Planner_init : MD := (⟨"RowForge$Planner", "<init>", "()V"⟩, prog_5_method_1_code, 1, none, [])
theorem mo_Planner_init : MOK m_Planner_init := ⟨tq2 44 rfl rfl, rfl, kw_initialized_RowForge_Planner, by decide, by decide⟩
theorem mi_Planner_init : MI m_Planner_init 0 := ⟨mo_Planner_init, by decide +kernel, tq2 43 rfl rfl, rfl, rfl⟩
abbrev m_Query_init : MD := (⟨"RowForge$Query", "<init>", "()V"⟩, prog_6_method_1_code, 1, none, [])
theorem mo_Query_init : MOK m_Query_init := ⟨tq2 98 rfl rfl, rfl, kw_initialized_RowForge_Query, by decide, by decide⟩
theorem mi_Query_init : MI m_Query_init 0 := ⟨mo_Query_init, by decide +kernel, tq2 97 rfl rfl, rfl, rfl⟩
abbrev m_F_scrap : MD := (⟨"RowForge", "scrap", "()I"⟩, prog_1_method_29_code, 2, some (Jvm.ClassFile.FieldType.int), [])
theorem mo_F_scrap : MOK m_F_scrap := ⟨tq2 193 rfl rfl, rfl, kw_initialized_RowForge, by decide, by decide⟩
theorem mv_F_scrap : MV m_F_scrap 0 := ⟨mo_F_scrap, by decide +kernel, tq2 191 rfl rfl, tq2 192 rfl rfl⟩
abbrev m_Query_clear : MD := (⟨"RowForge$Query", "clear", "()V"⟩, prog_6_method_2_code, 1, none, [])
theorem mo_Query_clear : MOK m_Query_clear := ⟨tq2 197 rfl rfl, rfl, kw_initialized_RowForge_Query, by decide, by decide⟩
theorem mv_Query_clear : MV m_Query_clear 0 := ⟨mo_Query_clear, by decide +kernel, tq2 195 rfl rfl, tq2 196 rfl rfl⟩
abbrev m_F_analyze : MD := (⟨"RowForge", "analyze", "()I"⟩, prog_1_method_34_code, 1, some (Jvm.ClassFile.FieldType.int), [])
theorem mo_F_analyze : MOK m_F_analyze := ⟨tq2 201 rfl rfl, rfl, kw_initialized_RowForge, by decide, by decide⟩
theorem mv_F_analyze : MV m_F_analyze 0 := ⟨mo_F_analyze, by decide +kernel, tq2 199 rfl rfl, tq2 200 rfl rfl⟩
abbrev m_Planner_takeStatistics : MD := (⟨"RowForge$Planner", "takeStatistics", "(LRowForge$Schema;LRowForge$Rows;)V"⟩, prog_5_method_2_code, 5, none, [])
theorem mo_Planner_takeStatistics : MOK m_Planner_takeStatistics := ⟨tq2 205 rfl rfl, rfl, kw_initialized_RowForge_Planner, by decide, by decide⟩
theorem mv_Planner_takeStatistics : MV m_Planner_takeStatistics 2 := ⟨mo_Planner_takeStatistics, by decide +kernel, tq2 203 rfl rfl, tq2 204 rfl rfl⟩
abbrev m_Rows_count : MD := (⟨"RowForge$Rows", "count", "(I)I"⟩, prog_8_method_8_code, 4, some (Jvm.ClassFile.FieldType.int), [])
theorem mo_Rows_count : MOK m_Rows_count := ⟨tq2 209 rfl rfl, rfl, kw_initialized_RowForge_Rows, by decide, by decide⟩
theorem mv_Rows_count : MV m_Rows_count 1 := ⟨mo_Rows_count, by decide +kernel, tq2 207 rfl rfl, tq2 208 rfl rfl⟩
abbrev m_Rows_keyAt : MD := (⟨"RowForge$Rows", "keyAt", "(I)I"⟩, prog_8_method_4_code, 2, some (Jvm.ClassFile.FieldType.int), [])
theorem mo_Rows_keyAt : MOK m_Rows_keyAt := ⟨tq2 213 rfl rfl, rfl, kw_initialized_RowForge_Rows, by decide, by decide⟩
theorem mv_Rows_keyAt : MV m_Rows_keyAt 1 := ⟨mo_Rows_keyAt, by decide +kernel, tq2 211 rfl rfl, tq2 212 rfl rfl⟩
abbrev m_Planner_countDistinct : MD := (⟨"RowForge$Planner", "countDistinct", "(LRowForge$Rows;II)I"⟩, prog_5_method_3_code, 8, some (Jvm.ClassFile.FieldType.int), [])
theorem mo_Planner_countDistinct : MOK m_Planner_countDistinct := ⟨tq2 216 rfl rfl, rfl, kw_initialized_RowForge_Planner, by decide, by decide⟩
theorem ms_Planner_countDistinct : MS m_Planner_countDistinct 3 := ⟨mo_Planner_countDistinct, by decide +kernel, tq2 215 rfl rfl⟩
abbrev m_Rows_startOf : MD := (⟨"RowForge$Rows", "startOf", "(I)I"⟩, prog_8_method_3_code, 1, some (Jvm.ClassFile.FieldType.int), [])
theorem mo_Rows_startOf : MOK m_Rows_startOf := ⟨tq2 219 rfl rfl, rfl, kw_initialized_RowForge_Rows, by decide, by decide⟩
theorem ms_Rows_startOf : MS m_Rows_startOf 1 := ⟨mo_Rows_startOf, by decide +kernel, tq2 218 rfl rfl⟩
abbrev m_F_dropPlans : MD := (⟨"RowForge", "dropPlans", "()I"⟩, prog_1_method_61_code, 4, some (Jvm.ClassFile.FieldType.int), [])
theorem mo_F_dropPlans : MOK m_F_dropPlans := ⟨tq2 224 rfl rfl, rfl, kw_initialized_RowForge, by decide, by decide⟩
theorem mv_F_dropPlans : MV m_F_dropPlans 0 := ⟨mo_F_dropPlans, by decide +kernel, tq2 223 rfl rfl, tb 0 rfl rfl⟩
abbrev m_java_util_ArrayList_size : MD := (⟨"java/util/ArrayList", "size", "()I"⟩, prog_41_method_8_code, 1, some (Jvm.ClassFile.FieldType.int), [])
theorem mo_java_util_ArrayList_size : MOK m_java_util_ArrayList_size := ⟨tq2 228 rfl rfl, rfl, kw_initialized_java_util_ArrayList, by decide, by decide⟩
theorem mv_java_util_ArrayList_size : MV m_java_util_ArrayList_size 0 := ⟨mo_java_util_ArrayList_size, by decide +kernel, tq2 226 rfl rfl, tq2 227 rfl rfl⟩
abbrev m_java_util_ArrayList_get : MD := (⟨"java/util/ArrayList", "get", "(I)Ljava/lang/Object;"⟩, prog_41_method_20_code, 2, some ((Jvm.ClassFile.FieldType.object "java/lang/Object")), [])
theorem mo_java_util_ArrayList_get : MOK m_java_util_ArrayList_get := ⟨tq2 232 rfl rfl, rfl, kw_initialized_java_util_ArrayList, by decide, by decide⟩
theorem mv_java_util_ArrayList_get : MV m_java_util_ArrayList_get 1 := ⟨mo_java_util_ArrayList_get, by decide +kernel, tq2 230 rfl rfl, tq2 231 rfl rfl⟩
abbrev m_java_util_ArrayList_elementData : MD := (⟨"java/util/ArrayList", "elementData", "(I)Ljava/lang/Object;"⟩, prog_41_method_18_code, 2, some ((Jvm.ClassFile.FieldType.object "java/lang/Object")), [])
theorem mo_java_util_ArrayList_elementData : MOK m_java_util_ArrayList_elementData := ⟨tq3 2 rfl rfl, rfl, kw_initialized_java_util_ArrayList, by decide, by decide⟩
theorem mv_java_util_ArrayList_elementData : MV m_java_util_ArrayList_elementData 1 := ⟨mo_java_util_ArrayList_elementData, by decide +kernel, tq3 0 rfl rfl, tq3 1 rfl rfl⟩
abbrev m_F_planned : MD := (⟨"RowForge", "planned", "()I"⟩, prog_1_method_37_code, 1, some (Jvm.ClassFile.FieldType.int), [])
theorem mo_F_planned : MOK m_F_planned := ⟨tq3 6 rfl rfl, rfl, kw_initialized_RowForge, by decide, by decide⟩
theorem mv_F_planned : MV m_F_planned 0 := ⟨mo_F_planned, by decide +kernel, tq3 4 rfl rfl, tq3 5 rfl rfl⟩
abbrev m_F_checkpoint : MD := (⟨"RowForge", "checkpoint", "()I"⟩, prog_1_method_42_code, 1, some (Jvm.ClassFile.FieldType.int), [])
theorem mo_F_checkpoint : MOK m_F_checkpoint := ⟨tq3 10 rfl rfl, rfl, kw_initialized_RowForge, by decide, by decide⟩
theorem mv_F_checkpoint : MV m_F_checkpoint 0 := ⟨mo_F_checkpoint, by decide +kernel, tq3 8 rfl rfl, tq3 9 rfl rfl⟩
abbrev m_Log_add : MD := (⟨"RowForge$Log", "add", "(IIII)V"⟩, prog_4_method_2_code, 6, none, [])
theorem mo_Log_add : MOK m_Log_add := ⟨tq3 15 rfl rfl, rfl, kw_initialized_RowForge_Log, by decide, by decide⟩
theorem mv_Log_add : MV m_Log_add 4 := ⟨mo_Log_add, by decide +kernel, tq3 13 rfl rfl, tq3 14 rfl rfl⟩
abbrev m_java_util_Arrays_copyOf : MD := (⟨"java/util/Arrays", "copyOf", "([II)[I"⟩, prog_42_method_123_code, 3, some ((Jvm.ClassFile.FieldType.array Jvm.ClassFile.FieldType.int)), [])
theorem mo_java_util_Arrays_copyOf : MOK m_java_util_Arrays_copyOf := ⟨tq3 18 rfl rfl, rfl, kw_initialized_java_util_Arrays, by decide, by decide⟩
theorem ms_java_util_Arrays_copyOf : MS m_java_util_Arrays_copyOf 2 := ⟨mo_java_util_Arrays_copyOf, by decide +kernel, tq3 17 rfl rfl⟩
abbrev m_java_lang_Math_min : MD := (⟨"java/lang/Math", "min", "(II)I"⟩, prog_28_method_69_code, 2, some (Jvm.ClassFile.FieldType.int), [])
theorem mo_java_lang_Math_min : MOK m_java_lang_Math_min := ⟨tq3 28 rfl rfl, rfl, kw_initialized_java_lang_Math, by decide, by decide⟩
theorem ms_java_lang_Math_min : MS m_java_lang_Math_min 2 := ⟨mo_java_lang_Math_min, by decide +kernel, tq3 27 rfl rfl⟩
abbrev m_java_util_Arrays_fill_IIIIV : MD := (⟨"java/util/Arrays", "fill", "([IIII)V"⟩, prog_42_method_104_code, 5, none, [])
theorem mo_java_util_Arrays_fill_IIIIV : MOK m_java_util_Arrays_fill_IIIIV := ⟨tq3 35 rfl rfl, rfl, kw_initialized_java_util_Arrays, by decide, by decide⟩
theorem ms_java_util_Arrays_fill_IIIIV : MS m_java_util_Arrays_fill_IIIIV 4 := ⟨mo_java_util_Arrays_fill_IIIIV, by decide +kernel, tq3 34 rfl rfl⟩
abbrev m_java_util_Arrays_rangeCheck : MD := (⟨"java/util/Arrays", "rangeCheck", "(III)V"⟩, prog_42_method_30_code, 3, none, [])
theorem mo_java_util_Arrays_rangeCheck : MOK m_java_util_Arrays_rangeCheck := ⟨tq3 38 rfl rfl, rfl, kw_initialized_java_util_Arrays, by decide, by decide⟩
theorem ms_java_util_Arrays_rangeCheck : MS m_java_util_Arrays_rangeCheck 3 := ⟨mo_java_util_Arrays_rangeCheck, by decide +kernel, tq3 37 rfl rfl⟩
abbrev m_java_lang_Math_max : MD := (⟨"java/lang/Math", "max", "(II)I"⟩, prog_28_method_65_code, 2, some (Jvm.ClassFile.FieldType.int), [])
theorem mo_java_lang_Math_max : MOK m_java_lang_Math_max := ⟨tq3 139 rfl rfl, rfl, kw_initialized_java_lang_Math, by decide, by decide⟩
theorem ms_java_lang_Math_max : MS m_java_lang_Math_max 2 := ⟨mo_java_lang_Math_max, by decide +kernel, tq3 138 rfl rfl⟩
abbrev m_java_util_Arrays_copyOf_BIB : MD := (⟨"java/util/Arrays", "copyOf", "([BI)[B"⟩, prog_42_method_121_code, 3, some ((Jvm.ClassFile.FieldType.array Jvm.ClassFile.FieldType.byte)), [])
theorem mo_java_util_Arrays_copyOf_BIB : MOK m_java_util_Arrays_copyOf_BIB := ⟨tq3 147 rfl rfl, rfl, kw_initialized_java_util_Arrays, by decide, by decide⟩
theorem ms_java_util_Arrays_copyOf_BIB : MS m_java_util_Arrays_copyOf_BIB 2 := ⟨mo_java_util_Arrays_copyOf_BIB, by decide +kernel, tq3 146 rfl rfl⟩
abbrev m_java_util_Arrays_copyOfRange : MD := (⟨"java/util/Arrays", "copyOfRange", "([BII)[B"⟩, prog_42_method_132_code, 3, some ((Jvm.ClassFile.FieldType.array Jvm.ClassFile.FieldType.byte)), [])
theorem mo_java_util_Arrays_copyOfRange : MOK m_java_util_Arrays_copyOfRange := ⟨tq4 43 rfl rfl, rfl, kw_initialized_java_util_Arrays, by decide, by decide⟩
theorem ms_java_util_Arrays_copyOfRange : MS m_java_util_Arrays_copyOfRange 3 := ⟨mo_java_util_Arrays_copyOfRange, by decide +kernel, tq4 42 rfl rfl⟩
abbrev m_java_util_Arrays_copyOfRangeByte : MD := (⟨"java/util/Arrays", "copyOfRangeByte", "([BII)[B"⟩, prog_42_method_133_code, 5, some ((Jvm.ClassFile.FieldType.array Jvm.ClassFile.FieldType.byte)), [])
theorem mo_java_util_Arrays_copyOfRangeByte : MOK m_java_util_Arrays_copyOfRangeByte := ⟨tq4 46 rfl rfl, rfl, kw_initialized_java_util_Arrays, by decide, by decide⟩
theorem ms_java_util_Arrays_copyOfRangeByte : MS m_java_util_Arrays_copyOfRangeByte 3 := ⟨mo_java_util_Arrays_copyOfRangeByte, by decide +kernel, tq4 45 rfl rfl⟩
abbrev m_java_util_Arrays_checkLength : MD := (⟨"java/util/Arrays", "checkLength", "(II)V"⟩, prog_42_method_131_code, 2, none, [])
theorem mo_java_util_Arrays_checkLength : MOK m_java_util_Arrays_checkLength := ⟨tq4 49 rfl rfl, rfl, kw_initialized_java_util_Arrays, by decide, by decide⟩
theorem ms_java_util_Arrays_checkLength : MS m_java_util_Arrays_checkLength 2 := ⟨mo_java_util_Arrays_checkLength, by decide +kernel, tq4 48 rfl rfl⟩
abbrev m_Log_flush : MD := (⟨"RowForge$Log", "flush", "()V"⟩, prog_4_method_4_code, 1, none, [])
theorem mo_Log_flush : MOK m_Log_flush := ⟨tq4 129 rfl rfl, rfl, kw_initialized_RowForge_Log, by decide, by decide⟩
theorem mv_Log_flush : MV m_Log_flush 0 := ⟨mo_Log_flush, by decide +kernel, tq4 127 rfl rfl, tq4 128 rfl rfl⟩
abbrev m_F_records : MD := (⟨"RowForge", "records", "()I"⟩, prog_1_method_44_code, 1, some (Jvm.ClassFile.FieldType.int), [])
theorem mo_F_records : MOK m_F_records := ⟨tq4 133 rfl rfl, rfl, kw_initialized_RowForge, by decide, by decide⟩
theorem mv_F_records : MV m_F_records 0 := ⟨mo_F_records, by decide +kernel, tq4 131 rfl rfl, tq4 132 rfl rfl⟩
abbrev m_F_flushed : MD := (⟨"RowForge", "flushed", "()I"⟩, prog_1_method_45_code, 1, some (Jvm.ClassFile.FieldType.int), [])
theorem mo_F_flushed : MOK m_F_flushed := ⟨tq4 137 rfl rfl, rfl, kw_initialized_RowForge, by decide, by decide⟩
theorem mv_F_flushed : MV m_F_flushed 0 := ⟨mo_F_flushed, by decide +kernel, tq4 135 rfl rfl, tq4 136 rfl rfl⟩
abbrev m_Law_table : MD := (⟨"RowForgeLaw", "table", "(LRowForge;I[J)I"⟩, method_3_code, 4, some (Jvm.ClassFile.FieldType.int), [((0 : Nat), (9 : Nat), (12 : Nat), (13 : Nat)), ((0 : Nat), (9 : Nat), (15 : Nat), (15 : Nat))])
theorem cd_Law_table : (Jvm.Cond.codeWith ({ cls := "RowForgeLaw", name := "table", desc := "(LRowForge;I[J)I" } : Jvm.MethodName) method_3_code (4 : Nat) (Option.some Jvm.ClassFile.FieldType.int) [((0 : Nat), (9 : Nat), (12 : Nat), (13 : Nat)), ((0 : Nat), (9 : Nat), (15 : Nat), (15 : Nat))]) ∈ TB := tq4 140 rfl rfl
abbrev m_F_table : MD := (⟨"RowForge", "table", "(I)I"⟩, prog_1_method_2_code, 2, some (Jvm.ClassFile.FieldType.int), [])
theorem mo_F_table : MOK m_F_table := ⟨tq4 146 rfl rfl, rfl, kw_initialized_RowForge, by decide, by decide⟩
theorem mv_F_table : MV m_F_table 1 := ⟨mo_F_table, by decide +kernel, tq4 144 rfl rfl, tq4 145 rfl rfl⟩
abbrev m_F_demandRange : MD := (⟨"RowForge", "demandRange", "(Z)V"⟩, prog_1_method_50_code, 1, none, [])
theorem mo_F_demandRange : MOK m_F_demandRange := ⟨tq4 149 rfl rfl, rfl, kw_initialized_RowForge, by decide, by decide⟩
theorem ms_F_demandRange : MS m_F_demandRange 1 := ⟨mo_F_demandRange, by decide +kernel, tq4 148 rfl rfl⟩
abbrev m_Engine_isBusy : MD := (⟨"RowForge$Engine", "isBusy", "()Z"⟩, prog_2_method_4_code, 1, some (Jvm.ClassFile.FieldType.boolean), [])
theorem mo_Engine_isBusy : MOK m_Engine_isBusy := ⟨tq4 164 rfl rfl, rfl, kw_initialized_RowForge_Engine, by decide, by decide⟩
theorem mv_Engine_isBusy : MV m_Engine_isBusy 0 := ⟨mo_Engine_isBusy, by decide +kernel, tq4 162 rfl rfl, tq4 163 rfl rfl⟩
abbrev m_Engine_countOpen : MD := (⟨"RowForge$Engine", "countOpen", "()I"⟩, prog_2_method_3_code, 3, some (Jvm.ClassFile.FieldType.int), [])
theorem mo_Engine_countOpen : MOK m_Engine_countOpen := ⟨tq4 168 rfl rfl, rfl, kw_initialized_RowForge_Engine, by decide, by decide⟩
theorem mv_Engine_countOpen : MV m_Engine_countOpen 0 := ⟨mo_Engine_countOpen, by decide +kernel, tq4 166 rfl rfl, tq4 167 rfl rfl⟩
abbrev m_Transaction_isOpen : MD := (⟨"RowForge$Transaction", "isOpen", "()Z"⟩, prog_10_method_2_code, 1, some (Jvm.ClassFile.FieldType.boolean), [])
theorem mo_Transaction_isOpen : MOK m_Transaction_isOpen := ⟨tq4 175 rfl rfl, rfl, kw_initialized_RowForge_Transaction, by decide, by decide⟩
theorem mv_Transaction_isOpen : MV m_Transaction_isOpen 0 := ⟨mo_Transaction_isOpen, by decide +kernel, tq4 173 rfl rfl, tq4 174 rfl rfl⟩
abbrev m_F_demandState : MD := (⟨"RowForge", "demandState", "(Z)V"⟩, prog_1_method_51_code, 1, none, [])
theorem mo_F_demandState : MOK m_F_demandState := ⟨tq4 178 rfl rfl, rfl, kw_initialized_RowForge, by decide, by decide⟩
theorem ms_F_demandState : MS m_F_demandState 1 := ⟨mo_F_demandState, by decide +kernel, tq4 177 rfl rfl⟩
abbrev m_Schema_addTable : MD := (⟨"RowForge$Schema", "addTable", "(I)I"⟩, prog_9_method_4_code, 2, some (Jvm.ClassFile.FieldType.int), [])
theorem mo_Schema_addTable : MOK m_Schema_addTable := ⟨tq4 197 rfl rfl, rfl, kw_initialized_RowForge_Schema, by decide, by decide⟩
theorem mv_Schema_addTable : MV m_Schema_addTable 1 := ⟨mo_Schema_addTable, by decide +kernel, tq4 195 rfl rfl, tq4 196 rfl rfl⟩
abbrev m_Law_check : MD := (⟨"RowForgeLaw", "check", "(LRowForge;IIII[J)I"⟩, method_4_code, 7, some (Jvm.ClassFile.FieldType.int), [((0 : Nat), (14 : Nat), (17 : Nat), (21 : Nat)), ((0 : Nat), (14 : Nat), (21 : Nat), (13 : Nat)), ((0 : Nat), (14 : Nat), (25 : Nat), (15 : Nat))])
theorem cd_Law_check : (Jvm.Cond.codeWith ({ cls := "RowForgeLaw", name := "check", desc := "(LRowForge;IIII[J)I" } : Jvm.MethodName) method_4_code (7 : Nat) (Option.some Jvm.ClassFile.FieldType.int) [((0 : Nat), (14 : Nat), (17 : Nat), (21 : Nat)), ((0 : Nat), (14 : Nat), (21 : Nat), (13 : Nat)), ((0 : Nat), (14 : Nat), (25 : Nat), (15 : Nat))]) ∈ TB := tq4 200 rfl rfl
abbrev m_F_check : MD := (⟨"RowForge", "check", "(IIII)I"⟩, prog_1_method_3_code, 5, some (Jvm.ClassFile.FieldType.int), [])
theorem mo_F_check : MOK m_F_check := ⟨tq4 207 rfl rfl, rfl, kw_initialized_RowForge, by decide, by decide⟩
theorem mv_F_check : MV m_F_check 4 := ⟨mo_F_check, by decide +kernel, tq4 205 rfl rfl, tq4 206 rfl rfl⟩
abbrev m_Schema_hasColumn : MD := (⟨"RowForge$Schema", "hasColumn", "(II)Z"⟩, prog_9_method_3_code, 3, some (Jvm.ClassFile.FieldType.boolean), [])
theorem mo_Schema_hasColumn : MOK m_Schema_hasColumn := ⟨tq4 211 rfl rfl, rfl, kw_initialized_RowForge_Schema, by decide, by decide⟩
theorem mv_Schema_hasColumn : MV m_Schema_hasColumn 2 := ⟨mo_Schema_hasColumn, by decide +kernel, tq4 209 rfl rfl, tq4 210 rfl rfl⟩
abbrev m_Schema_hasTable : MD := (⟨"RowForge$Schema", "hasTable", "(I)Z"⟩, prog_9_method_2_code, 2, some (Jvm.ClassFile.FieldType.boolean), [])
theorem mo_Schema_hasTable : MOK m_Schema_hasTable := ⟨tq4 215 rfl rfl, rfl, kw_initialized_RowForge_Schema, by decide, by decide⟩
theorem mv_Schema_hasTable : MV m_Schema_hasTable 1 := ⟨mo_Schema_hasTable, by decide +kernel, tq4 213 rfl rfl, tq4 214 rfl rfl⟩
abbrev m_F_demandPlace : MD := (⟨"RowForge", "demandPlace", "(Z)V"⟩, prog_1_method_49_code, 1, none, [])
theorem mo_F_demandPlace : MOK m_F_demandPlace := ⟨tq4 218 rfl rfl, rfl, kw_initialized_RowForge, by decide, by decide⟩
theorem ms_F_demandPlace : MS m_F_demandPlace 1 := ⟨mo_F_demandPlace, by decide +kernel, tq4 217 rfl rfl⟩
abbrev m_F_isComparison : MD := (⟨"RowForge", "isComparison", "(I)Z"⟩, prog_1_method_53_code, 1, some (Jvm.ClassFile.FieldType.boolean), [])
theorem mo_F_isComparison : MOK m_F_isComparison := ⟨tq4 236 rfl rfl, rfl, kw_initialized_RowForge, by decide, by decide⟩
theorem ms_F_isComparison : MS m_F_isComparison 1 := ⟨mo_F_isComparison, by decide +kernel, tq4 235 rfl rfl⟩
abbrev m_F_isNumber : MD := (⟨"RowForge", "isNumber", "(I)Z"⟩, prog_1_method_52_code, 1, some (Jvm.ClassFile.FieldType.boolean), [])
theorem mo_F_isNumber : MOK m_F_isNumber := ⟨tq4 239 rfl rfl, rfl, kw_initialized_RowForge, by decide, by decide⟩
theorem ms_F_isNumber : MS m_F_isNumber 1 := ⟨mo_F_isNumber, by decide +kernel, tq4 238 rfl rfl⟩
abbrev m_Schema_addCheck : MD := (⟨"RowForge$Schema", "addCheck", "(IIII)I"⟩, prog_9_method_5_code, 6, some (Jvm.ClassFile.FieldType.int), [])
theorem mo_Schema_addCheck : MOK m_Schema_addCheck := ⟨tq5 4 rfl rfl, rfl, kw_initialized_RowForge_Schema, by decide, by decide⟩
theorem mv_Schema_addCheck : MV m_Schema_addCheck 4 := ⟨mo_Schema_addCheck, by decide +kernel, tq5 2 rfl rfl, tq5 3 rfl rfl⟩
abbrev m_Law_refer : MD := (⟨"RowForgeLaw", "refer", "(LRowForge;IIII)I"⟩, method_5_code, 6, some (Jvm.ClassFile.FieldType.int), [((0 : Nat), (9 : Nat), (12 : Nat), (21 : Nat)), ((0 : Nat), (9 : Nat), (16 : Nat), (13 : Nat)), ((0 : Nat), (9 : Nat), (20 : Nat), (15 : Nat))])
theorem cd_Law_refer : (Jvm.Cond.codeWith ({ cls := "RowForgeLaw", name := "refer", desc := "(LRowForge;IIII)I" } : Jvm.MethodName) method_5_code (6 : Nat) (Option.some Jvm.ClassFile.FieldType.int) [((0 : Nat), (9 : Nat), (12 : Nat), (21 : Nat)), ((0 : Nat), (9 : Nat), (16 : Nat), (13 : Nat)), ((0 : Nat), (9 : Nat), (20 : Nat), (15 : Nat))]) ∈ TB := tq5 7 rfl rfl
abbrev m_F_refer : MD := (⟨"RowForge", "refer", "(IIII)V"⟩, prog_1_method_4_code, 5, none, [])
theorem mo_F_refer : MOK m_F_refer := ⟨tq5 11 rfl rfl, rfl, kw_initialized_RowForge, by decide, by decide⟩
theorem mv_F_refer : MV m_F_refer 4 := ⟨mo_F_refer, by decide +kernel, tq5 9 rfl rfl, tq5 10 rfl rfl⟩
abbrev m_Schema_target : MD := (⟨"RowForge$Schema", "target", "(II)I"⟩, prog_9_method_8_code, 3, some (Jvm.ClassFile.FieldType.int), [])
theorem mo_Schema_target : MOK m_Schema_target := ⟨tq5 16 rfl rfl, rfl, kw_initialized_RowForge_Schema, by decide, by decide⟩
theorem mv_Schema_target : MV m_Schema_target 2 := ⟨mo_Schema_target, by decide +kernel, tq5 14 rfl rfl, tq5 15 rfl rfl⟩
abbrev m_Schema_addReference : MD := (⟨"RowForge$Schema", "addReference", "(IIII)V"⟩, prog_9_method_6_code, 5, none, [])
theorem mo_Schema_addReference : MOK m_Schema_addReference := ⟨tq5 20 rfl rfl, rfl, kw_initialized_RowForge_Schema, by decide, by decide⟩
theorem mv_Schema_addReference : MV m_Schema_addReference 4 := ⟨mo_Schema_addReference, by decide +kernel, tq5 18 rfl rfl, tq5 19 rfl rfl⟩
abbrev m_Law_veil : MD := (⟨"RowForgeLaw", "veil", "(LRowForge;IIIII[J)I"⟩, method_6_code, 8, some (Jvm.ClassFile.FieldType.int), [((0 : Nat), (16 : Nat), (19 : Nat), (21 : Nat)), ((0 : Nat), (16 : Nat), (23 : Nat), (13 : Nat)), ((0 : Nat), (16 : Nat), (27 : Nat), (15 : Nat))])
theorem cd_Law_veil : (Jvm.Cond.codeWith ({ cls := "RowForgeLaw", name := "veil", desc := "(LRowForge;IIIII[J)I" } : Jvm.MethodName) method_6_code (8 : Nat) (Option.some Jvm.ClassFile.FieldType.int) [((0 : Nat), (16 : Nat), (19 : Nat), (21 : Nat)), ((0 : Nat), (16 : Nat), (23 : Nat), (13 : Nat)), ((0 : Nat), (16 : Nat), (27 : Nat), (15 : Nat))]) ∈ TB := tq5 23 rfl rfl
abbrev m_F_veil : MD := (⟨"RowForge", "veil", "(IIIII)I"⟩, prog_1_method_5_code, 6, some (Jvm.ClassFile.FieldType.int), [])
theorem mo_F_veil : MOK m_F_veil := ⟨tq5 27 rfl rfl, rfl, kw_initialized_RowForge, by decide, by decide⟩
theorem mv_F_veil : MV m_F_veil 5 := ⟨mo_F_veil, by decide +kernel, tq5 25 rfl rfl, tq5 26 rfl rfl⟩
abbrev m_Schema_addVeil : MD := (⟨"RowForge$Schema", "addVeil", "(IIIII)I"⟩, prog_9_method_7_code, 7, some (Jvm.ClassFile.FieldType.int), [])
theorem mo_Schema_addVeil : MOK m_Schema_addVeil := ⟨tq5 31 rfl rfl, rfl, kw_initialized_RowForge_Schema, by decide, by decide⟩
theorem mv_Schema_addVeil : MV m_Schema_addVeil 5 := ⟨mo_Schema_addVeil, by decide +kernel, tq5 29 rfl rfl, tq5 30 rfl rfl⟩
abbrev m_Law_begin : MD := (⟨"RowForgeLaw", "begin", "(LRowForge;I[J)I"⟩, method_7_code, 4, some (Jvm.ClassFile.FieldType.int), [((0 : Nat), (9 : Nat), (12 : Nat), (21 : Nat)), ((0 : Nat), (9 : Nat), (15 : Nat), (15 : Nat))])
theorem cd_Law_begin : (Jvm.Cond.codeWith ({ cls := "RowForgeLaw", name := "begin", desc := "(LRowForge;I[J)I" } : Jvm.MethodName) method_7_code (4 : Nat) (Option.some Jvm.ClassFile.FieldType.int) [((0 : Nat), (9 : Nat), (12 : Nat), (21 : Nat)), ((0 : Nat), (9 : Nat), (15 : Nat), (15 : Nat))]) ∈ TB := tq5 34 rfl rfl
abbrev m_F_begin : MD := (⟨"RowForge", "begin", "(I)I"⟩, prog_1_method_6_code, 2, some (Jvm.ClassFile.FieldType.int), [])
theorem mo_F_begin : MOK m_F_begin := ⟨tq5 38 rfl rfl, rfl, kw_initialized_RowForge, by decide, by decide⟩
theorem mv_F_begin : MV m_F_begin 1 := ⟨mo_F_begin, by decide +kernel, tq5 36 rfl rfl, tq5 37 rfl rfl⟩
abbrev m_Engine_start : MD := (⟨"RowForge$Engine", "start", "(I)I"⟩, prog_2_method_5_code, 3, some (Jvm.ClassFile.FieldType.int), [])
theorem mo_Engine_start : MOK m_Engine_start := ⟨tq5 43 rfl rfl, rfl, kw_initialized_RowForge_Engine, by decide, by decide⟩
theorem mv_Engine_start : MV m_Engine_start 1 := ⟨mo_Engine_start, by decide +kernel, tq5 41 rfl rfl, tq5 42 rfl rfl⟩
abbrev m_Transaction_init : MD := (⟨"RowForge$Transaction", "<init>", "(III)V"⟩, prog_10_method_1_code, 4, none, [])
theorem mo_Transaction_init : MOK m_Transaction_init := ⟨tq5 47 rfl rfl, rfl, kw_initialized_RowForge_Transaction, by decide, by decide⟩
theorem mi_Transaction_init : MI m_Transaction_init 3 := ⟨mo_Transaction_init, by decide +kernel, tq5 46 rfl rfl, rfl, rfl⟩
abbrev m_Rows_copyFrom : MD := (⟨"RowForge$Rows", "copyFrom", "(LRowForge$Rows;)V"⟩, prog_8_method_2_code, 2, none, [])
theorem mo_Rows_copyFrom : MOK m_Rows_copyFrom := ⟨tq5 136 rfl rfl, rfl, kw_initialized_RowForge_Rows, by decide, by decide⟩
theorem mv_Rows_copyFrom : MV m_Rows_copyFrom 1 := ⟨mo_Rows_copyFrom, by decide +kernel, tq5 134 rfl rfl, tq5 135 rfl rfl⟩
abbrev m_java_util_ArrayList_add : MD := (⟨"java/util/ArrayList", "add", "(Ljava/lang/Object;)Z"⟩, prog_41_method_25_code, 2, some (Jvm.ClassFile.FieldType.boolean), [])
theorem mo_java_util_ArrayList_add : MOK m_java_util_ArrayList_add := ⟨tq5 141 rfl rfl, rfl, kw_initialized_java_util_ArrayList, by decide, by decide⟩
theorem mv_java_util_ArrayList_add : MV m_java_util_ArrayList_add 1 := ⟨mo_java_util_ArrayList_add, by decide +kernel, tq5 139 rfl rfl, tq5 140 rfl rfl⟩
abbrev m_java_util_ArrayList_add_LjavalangObjectLjavalangObjectIV : MD := (⟨"java/util/ArrayList", "add", "(Ljava/lang/Object;[Ljava/lang/Object;I)V"⟩, prog_41_method_24_code, 4, none, [])
theorem mo_java_util_ArrayList_add_LjavalangObjectLjavalangObjectIV : MOK m_java_util_ArrayList_add_LjavalangObjectLjavalangObjectIV := ⟨tq5 145 rfl rfl, rfl, kw_initialized_java_util_ArrayList, by decide, by decide⟩
theorem mv_java_util_ArrayList_add_LjavalangObjectLjavalangObjectIV : MV m_java_util_ArrayList_add_LjavalangObjectLjavalangObjectIV 3 := ⟨mo_java_util_ArrayList_add_LjavalangObjectLjavalangObjectIV, by decide +kernel, tq5 144 rfl rfl, tb 2 rfl rfl⟩
abbrev m_java_util_ArrayList_grow : MD := (⟨"java/util/ArrayList", "grow", "()[Ljava/lang/Object;"⟩, prog_41_method_7_code, 1, some ((Jvm.ClassFile.FieldType.array (Jvm.ClassFile.FieldType.object "java/lang/Object"))), [])
theorem mo_java_util_ArrayList_grow : MOK m_java_util_ArrayList_grow := ⟨tq5 149 rfl rfl, rfl, kw_initialized_java_util_ArrayList, by decide, by decide⟩
theorem mv_java_util_ArrayList_grow : MV m_java_util_ArrayList_grow 0 := ⟨mo_java_util_ArrayList_grow, by decide +kernel, tq5 148 rfl rfl, tb 3 rfl rfl⟩
abbrev m_java_util_ArrayList_grow_ILjavalangObject : MD := (⟨"java/util/ArrayList", "grow", "(I)[Ljava/lang/Object;"⟩, prog_41_method_6_code, 4, some ((Jvm.ClassFile.FieldType.array (Jvm.ClassFile.FieldType.object "java/lang/Object"))), [])
theorem mo_java_util_ArrayList_grow_ILjavalangObject : MOK m_java_util_ArrayList_grow_ILjavalangObject := ⟨tq5 153 rfl rfl, rfl, kw_initialized_java_util_ArrayList, by decide, by decide⟩
theorem mv_java_util_ArrayList_grow_ILjavalangObject : MV m_java_util_ArrayList_grow_ILjavalangObject 1 := ⟨mo_java_util_ArrayList_grow_ILjavalangObject, by decide +kernel, tq5 152 rfl rfl, tb 4 rfl rfl⟩
abbrev m_java_util_Arrays_copyOf_LjavalangObjectILjavalangObject : MD := (⟨"java/util/Arrays", "copyOf", "([Ljava/lang/Object;I)[Ljava/lang/Object;"⟩, prog_42_method_119_code, 2, some ((Jvm.ClassFile.FieldType.array (Jvm.ClassFile.FieldType.object "java/lang/Object"))), [])
theorem mo_java_util_Arrays_copyOf_LjavalangObjectILjavalangObject : MOK m_java_util_Arrays_copyOf_LjavalangObjectILjavalangObject := ⟨tq5 157 rfl rfl, rfl, kw_initialized_java_util_Arrays, by decide, by decide⟩
theorem ms_java_util_Arrays_copyOf_LjavalangObjectILjavalangObject : MS m_java_util_Arrays_copyOf_LjavalangObjectILjavalangObject 2 := ⟨mo_java_util_Arrays_copyOf_LjavalangObjectILjavalangObject, by decide +kernel, tq5 156 rfl rfl⟩
abbrev m_java_util_Arrays_copyOf_LjavalangObjectILjavalangClassLjavalangObject : MD := (⟨"java/util/Arrays", "copyOf", "([Ljava/lang/Object;ILjava/lang/Class;)[Ljava/lang/Object;"⟩, prog_42_method_120_code, 4, some ((Jvm.ClassFile.FieldType.array (Jvm.ClassFile.FieldType.object "java/lang/Object"))), [])
theorem mo_java_util_Arrays_copyOf_LjavalangObjectILjavalangClassLjavalangObject : MOK m_java_util_Arrays_copyOf_LjavalangObjectILjavalangClassLjavalangObject := ⟨tq5 184 rfl rfl, rfl, kw_initialized_java_util_Arrays, by decide, by decide⟩
theorem ms_java_util_Arrays_copyOf_LjavalangObjectILjavalangClassLjavalangObject : MS m_java_util_Arrays_copyOf_LjavalangObjectILjavalangClassLjavalangObject 3 := ⟨mo_java_util_Arrays_copyOf_LjavalangObjectILjavalangClassLjavalangObject, by decide +kernel, tq5 183 rfl rfl⟩
abbrev m_Law_value : MD := (⟨"RowForgeLaw", "value", "(LRowForge;I[J)I"⟩, method_8_code, 4, some (Jvm.ClassFile.FieldType.int), [((0 : Nat), (9 : Nat), (12 : Nat), (13 : Nat)), ((0 : Nat), (9 : Nat), (15 : Nat), (15 : Nat))])
theorem cd_Law_value : (Jvm.Cond.codeWith ({ cls := "RowForgeLaw", name := "value", desc := "(LRowForge;I[J)I" } : Jvm.MethodName) method_8_code (4 : Nat) (Option.some Jvm.ClassFile.FieldType.int) [((0 : Nat), (9 : Nat), (12 : Nat), (13 : Nat)), ((0 : Nat), (9 : Nat), (15 : Nat), (15 : Nat))]) ∈ TB := tq5 192 rfl rfl
abbrev m_F_value : MD := (⟨"RowForge", "value", "(I)I"⟩, prog_1_method_7_code, 2, some (Jvm.ClassFile.FieldType.int), [])
theorem mo_F_value : MOK m_F_value := ⟨tq5 196 rfl rfl, rfl, kw_initialized_RowForge, by decide, by decide⟩
theorem mv_F_value : MV m_F_value 1 := ⟨mo_F_value, by decide +kernel, tq5 194 rfl rfl, tq5 195 rfl rfl⟩
abbrev m_Law_insert : MD := (⟨"RowForgeLaw", "insert", "(LRowForge;II[J)I"⟩, method_9_code, 5, some (Jvm.ClassFile.FieldType.int), [((0 : Nat), (10 : Nat), (13 : Nat), (21 : Nat)), ((0 : Nat), (10 : Nat), (17 : Nat), (15 : Nat))])
theorem cd_Law_insert : (Jvm.Cond.codeWith ({ cls := "RowForgeLaw", name := "insert", desc := "(LRowForge;II[J)I" } : Jvm.MethodName) method_9_code (5 : Nat) (Option.some Jvm.ClassFile.FieldType.int) [((0 : Nat), (10 : Nat), (13 : Nat), (21 : Nat)), ((0 : Nat), (10 : Nat), (17 : Nat), (15 : Nat))]) ∈ TB := tq5 199 rfl rfl
abbrev m_F_insert : MD := (⟨"RowForge", "insert", "(II)I"⟩, prog_1_method_8_code, 4, some (Jvm.ClassFile.FieldType.int), [])
theorem mo_F_insert : MOK m_F_insert := ⟨tq5 203 rfl rfl, rfl, kw_initialized_RowForge, by decide, by decide⟩
theorem mv_F_insert : MV m_F_insert 2 := ⟨mo_F_insert, by decide +kernel, tq5 201 rfl rfl, tq5 202 rfl rfl⟩
abbrev m_Engine_hasTransaction : MD := (⟨"RowForge$Engine", "hasTransaction", "(I)Z"⟩, prog_2_method_2_code, 2, some (Jvm.ClassFile.FieldType.boolean), [])
theorem mo_Engine_hasTransaction : MOK m_Engine_hasTransaction := ⟨tq5 207 rfl rfl, rfl, kw_initialized_RowForge_Engine, by decide, by decide⟩
theorem mv_Engine_hasTransaction : MV m_Engine_hasTransaction 1 := ⟨mo_Engine_hasTransaction, by decide +kernel, tq5 205 rfl rfl, tq5 206 rfl rfl⟩
abbrev m_F_activeTransaction : MD := (⟨"RowForge", "activeTransaction", "(I)LRowForge$Transaction;"⟩, prog_1_method_59_code, 3, some ((Jvm.ClassFile.FieldType.object "RowForge$Transaction")), [])
theorem mo_F_activeTransaction : MOK m_F_activeTransaction := ⟨tq5 211 rfl rfl, rfl, kw_initialized_RowForge, by decide, by decide⟩
theorem mv_F_activeTransaction : MV m_F_activeTransaction 1 := ⟨mo_F_activeTransaction, by decide +kernel, tq5 210 rfl rfl, tb 5 rfl rfl⟩
abbrev m_F_transactionAt : MD := (⟨"RowForge", "transactionAt", "(I)LRowForge$Transaction;"⟩, prog_1_method_58_code, 2, some ((Jvm.ClassFile.FieldType.object "RowForge$Transaction")), [])
theorem mo_F_transactionAt : MOK m_F_transactionAt := ⟨tq5 215 rfl rfl, rfl, kw_initialized_RowForge, by decide, by decide⟩
theorem mv_F_transactionAt : MV m_F_transactionAt 1 := ⟨mo_F_transactionAt, by decide +kernel, tq5 214 rfl rfl, tb 6 rfl rfl⟩
abbrev m_Transaction_planInsert : MD := (⟨"RowForge$Transaction", "planInsert", "(I[II)V"⟩, prog_10_method_3_code, 4, none, [])
theorem mo_Transaction_planInsert : MOK m_Transaction_planInsert := ⟨tq5 220 rfl rfl, rfl, kw_initialized_RowForge_Transaction, by decide, by decide⟩
theorem mv_Transaction_planInsert : MV m_Transaction_planInsert 3 := ⟨mo_Transaction_planInsert, by decide +kernel, tq5 218 rfl rfl, tq5 219 rfl rfl⟩
abbrev m_Engine_settle : MD := (⟨"RowForge$Engine", "settle", "(LRowForge$Transaction;)V"⟩, prog_2_method_13_code, 4, none, [])
theorem mo_Engine_settle : MOK m_Engine_settle := ⟨tq5 227 rfl rfl, rfl, kw_initialized_RowForge_Engine, by decide, by decide⟩
theorem mv_Engine_settle : MV m_Engine_settle 1 := ⟨mo_Engine_settle, by decide +kernel, tq5 225 rfl rfl, tq5 226 rfl rfl⟩
abbrev m_Engine_lowestFreed : MD := (⟨"RowForge$Engine", "lowestFreed", "()LRowForge$Transaction;"⟩, prog_2_method_14_code, 3, some ((Jvm.ClassFile.FieldType.object "RowForge$Transaction")), [])
theorem mo_Engine_lowestFreed : MOK m_Engine_lowestFreed := ⟨tq5 231 rfl rfl, rfl, kw_initialized_RowForge_Engine, by decide, by decide⟩
theorem mv_Engine_lowestFreed : MV m_Engine_lowestFreed 0 := ⟨mo_Engine_lowestFreed, by decide +kernel, tq5 230 rfl rfl, tb 7 rfl rfl⟩
abbrev m_Engine_attempt : MD := (⟨"RowForge$Engine", "attempt", "(LRowForge$Transaction;)V"⟩, prog_2_method_7_code, 3, none, [])
theorem mo_Engine_attempt : MOK m_Engine_attempt := ⟨tq5 236 rfl rfl, rfl, kw_initialized_RowForge_Engine, by decide, by decide⟩
theorem mv_Engine_attempt : MV m_Engine_attempt 1 := ⟨mo_Engine_attempt, by decide +kernel, tq5 235 rfl rfl, tb 8 rfl rfl⟩
abbrev m_Trial_allows : MD := (⟨"RowForge$Trial", "allows", "(LRowForge$Transaction;)Z"⟩, prog_11_method_2_code, 2, some (Jvm.ClassFile.FieldType.boolean), [])
theorem mo_Trial_allows : MOK m_Trial_allows := ⟨tq6 0 rfl rfl, rfl, kw_initialized_RowForge_Trial, by decide, by decide⟩
theorem mv_Trial_allows : MV m_Trial_allows 1 := ⟨mo_Trial_allows, by decide +kernel, tq5 238 rfl rfl, tq5 239 rfl rfl⟩
abbrev m_Trial_allowsInsert : MD := (⟨"RowForge$Trial", "allowsInsert", "(LRowForge$Transaction;)Z"⟩, prog_11_method_3_code, 5, some (Jvm.ClassFile.FieldType.boolean), [])
theorem mo_Trial_allowsInsert : MOK m_Trial_allowsInsert := ⟨tq6 5 rfl rfl, rfl, kw_initialized_RowForge_Trial, by decide, by decide⟩
theorem mv_Trial_allowsInsert : MV m_Trial_allowsInsert 1 := ⟨mo_Trial_allowsInsert, by decide +kernel, tq6 4 rfl rfl, tb 9 rfl rfl⟩
abbrev m_Transaction_readKey : MD := (⟨"RowForge$Transaction", "readKey", "(II)V"⟩, prog_10_method_8_code, 3, none, [])
theorem mo_Transaction_readKey : MOK m_Transaction_readKey := ⟨tq6 10 rfl rfl, rfl, kw_initialized_RowForge_Transaction, by decide, by decide⟩
theorem mv_Transaction_readKey : MV m_Transaction_readKey 2 := ⟨mo_Transaction_readKey, by decide +kernel, tq6 8 rfl rfl, tq6 9 rfl rfl⟩
abbrev m_Transaction_hasReadKey : MD := (⟨"RowForge$Transaction", "hasReadKey", "(II)Z"⟩, prog_10_method_9_code, 4, some (Jvm.ClassFile.FieldType.boolean), [])
theorem mo_Transaction_hasReadKey : MOK m_Transaction_hasReadKey := ⟨tq6 14 rfl rfl, rfl, kw_initialized_RowForge_Transaction, by decide, by decide⟩
theorem mv_Transaction_hasReadKey : MV m_Transaction_hasReadKey 2 := ⟨mo_Transaction_hasReadKey, by decide +kernel, tq6 12 rfl rfl, tq6 13 rfl rfl⟩
abbrev m_Trial_findsReferred : MD := (⟨"RowForge$Trial", "findsReferred", "(LRowForge$Transaction;II)Z"⟩, prog_11_method_5_code, 5, some (Jvm.ClassFile.FieldType.boolean), [])
theorem mo_Trial_findsReferred : MOK m_Trial_findsReferred := ⟨tq6 19 rfl rfl, rfl, kw_initialized_RowForge_Trial, by decide, by decide⟩
theorem mv_Trial_findsReferred : MV m_Trial_findsReferred 3 := ⟨mo_Trial_findsReferred, by decide +kernel, tq6 18 rfl rfl, tb 10 rfl rfl⟩
abbrev m_Rows_find : MD := (⟨"RowForge$Rows", "find", "(II)I"⟩, prog_8_method_5_code, 3, some (Jvm.ClassFile.FieldType.int), [])
theorem mo_Rows_find : MOK m_Rows_find := ⟨tq6 24 rfl rfl, rfl, kw_initialized_RowForge_Rows, by decide, by decide⟩
theorem mv_Rows_find : MV m_Rows_find 2 := ⟨mo_Rows_find, by decide +kernel, tq6 22 rfl rfl, tq6 23 rfl rfl⟩
abbrev m_Rows_firstWith : MD := (⟨"RowForge$Rows", "firstWith", "(II)I"⟩, prog_8_method_7_code, 4, some (Jvm.ClassFile.FieldType.int), [])
theorem mo_Rows_firstWith : MOK m_Rows_firstWith := ⟨tq6 28 rfl rfl, rfl, kw_initialized_RowForge_Rows, by decide, by decide⟩
theorem mv_Rows_firstWith : MV m_Rows_firstWith 2 := ⟨mo_Rows_firstWith, by decide +kernel, tq6 27 rfl rfl, tb 11 rfl rfl⟩
abbrev m_Rows_findFree : MD := (⟨"RowForge$Rows", "findFree", "(I)I"⟩, prog_8_method_6_code, 2, some (Jvm.ClassFile.FieldType.int), [])
theorem mo_Rows_findFree : MOK m_Rows_findFree := ⟨tq6 32 rfl rfl, rfl, kw_initialized_RowForge_Rows, by decide, by decide⟩
theorem mv_Rows_findFree : MV m_Rows_findFree 1 := ⟨mo_Rows_findFree, by decide +kernel, tq6 30 rfl rfl, tq6 31 rfl rfl⟩
abbrev m_Schema_passesChecks : MD := (⟨"RowForge$Schema", "passesChecks", "(I[II)Z"⟩, prog_9_method_10_code, 6, some (Jvm.ClassFile.FieldType.boolean), [])
theorem mo_Schema_passesChecks : MOK m_Schema_passesChecks := ⟨tq6 36 rfl rfl, rfl, kw_initialized_RowForge_Schema, by decide, by decide⟩
theorem mv_Schema_passesChecks : MV m_Schema_passesChecks 3 := ⟨mo_Schema_passesChecks, by decide +kernel, tq6 34 rfl rfl, tq6 35 rfl rfl⟩
abbrev m_F_compared : MD := (⟨"RowForge", "compared", "(III)I"⟩, prog_1_method_54_code, 5, some (Jvm.ClassFile.FieldType.int), [])
theorem mo_F_compared : MOK m_F_compared := ⟨tq6 39 rfl rfl, rfl, kw_initialized_RowForge, by decide, by decide⟩
theorem ms_F_compared : MS m_F_compared 3 := ⟨mo_F_compared, by decide +kernel, tq6 38 rfl rfl⟩
abbrev m_java_lang_Integer_compare : MD := (⟨"java/lang/Integer", "compare", "(II)I"⟩, prog_26_method_40_code, 2, some (Jvm.ClassFile.FieldType.int), [])
theorem mo_java_lang_Integer_compare : MOK m_java_lang_Integer_compare := ⟨tq6 42 rfl rfl, rfl, kw_initialized_java_lang_Integer, by decide, by decide⟩
theorem ms_java_lang_Integer_compare : MS m_java_lang_Integer_compare 2 := ⟨mo_java_lang_Integer_compare, by decide +kernel, tq6 41 rfl rfl⟩
abbrev m_Rows_put : MD := (⟨"RowForge$Rows", "put", "(I[II)V"⟩, prog_8_method_10_code, 4, none, [])
theorem mo_Rows_put : MOK m_Rows_put := ⟨tq6 46 rfl rfl, rfl, kw_initialized_RowForge_Rows, by decide, by decide⟩
theorem mv_Rows_put : MV m_Rows_put 3 := ⟨mo_Rows_put, by decide +kernel, tq6 44 rfl rfl, tq6 45 rfl rfl⟩
abbrev m_Trial_touch : MD := (⟨"RowForge$Trial", "touch", "(II)V"⟩, prog_11_method_16_code, 5, none, [])
theorem mo_Trial_touch : MOK m_Trial_touch := ⟨tq6 51 rfl rfl, rfl, kw_initialized_RowForge_Trial, by decide, by decide⟩
theorem mv_Trial_touch : MV m_Trial_touch 2 := ⟨mo_Trial_touch, by decide +kernel, tq6 50 rfl rfl, tb 12 rfl rfl⟩
abbrev m_Trial_allowsUpdate : MD := (⟨"RowForge$Trial", "allowsUpdate", "(LRowForge$Transaction;)Z"⟩, prog_11_method_4_code, 5, some (Jvm.ClassFile.FieldType.boolean), [])
theorem mo_Trial_allowsUpdate : MOK m_Trial_allowsUpdate := ⟨tq6 55 rfl rfl, rfl, kw_initialized_RowForge_Trial, by decide, by decide⟩
theorem mv_Trial_allowsUpdate : MV m_Trial_allowsUpdate 1 := ⟨mo_Trial_allowsUpdate, by decide +kernel, tq6 54 rfl rfl, tb 13 rfl rfl⟩
abbrev m_Trial_seenPlace : MD := (⟨"RowForge$Trial", "seenPlace", "(LRowForge$Transaction;)I"⟩, prog_11_method_6_code, 3, some (Jvm.ClassFile.FieldType.int), [])
theorem mo_Trial_seenPlace : MOK m_Trial_seenPlace := ⟨tq6 59 rfl rfl, rfl, kw_initialized_RowForge_Trial, by decide, by decide⟩
theorem mv_Trial_seenPlace : MV m_Trial_seenPlace 1 := ⟨mo_Trial_seenPlace, by decide +kernel, tq6 58 rfl rfl, tb 14 rfl rfl⟩
abbrev m_Schema_isSeen : MD := (⟨"RowForge$Schema", "isSeen", "(II[II)Z"⟩, prog_9_method_11_code, 7, some (Jvm.ClassFile.FieldType.boolean), [])
theorem mo_Schema_isSeen : MOK m_Schema_isSeen := ⟨tq6 64 rfl rfl, rfl, kw_initialized_RowForge_Schema, by decide, by decide⟩
theorem mv_Schema_isSeen : MV m_Schema_isSeen 4 := ⟨mo_Schema_isSeen, by decide +kernel, tq6 62 rfl rfl, tq6 63 rfl rfl⟩
abbrev m_Trial_allowsDelete : MD := (⟨"RowForge$Trial", "allowsDelete", "(LRowForge$Transaction;)Z"⟩, prog_11_method_7_code, 3, some (Jvm.ClassFile.FieldType.boolean), [])
theorem mo_Trial_allowsDelete : MOK m_Trial_allowsDelete := ⟨tq6 68 rfl rfl, rfl, kw_initialized_RowForge_Trial, by decide, by decide⟩
theorem mv_Trial_allowsDelete : MV m_Trial_allowsDelete 1 := ⟨mo_Trial_allowsDelete, by decide +kernel, tq6 67 rfl rfl, tb 15 rfl rfl⟩
abbrev m_Trial_findAllReferred : MD := (⟨"RowForge$Trial", "findAllReferred", "(LRowForge$Rows;)V"⟩, prog_11_method_8_code, 5, none, [])
theorem mo_Trial_findAllReferred : MOK m_Trial_findAllReferred := ⟨tq6 72 rfl rfl, rfl, kw_initialized_RowForge_Trial, by decide, by decide⟩
theorem mv_Trial_findAllReferred : MV m_Trial_findAllReferred 1 := ⟨mo_Trial_findAllReferred, by decide +kernel, tq6 71 rfl rfl, tb 16 rfl rfl⟩
abbrev m_Trial_targetSlot : MD := (⟨"RowForge$Trial", "targetSlot", "(I)I"⟩, prog_11_method_9_code, 1, some (Jvm.ClassFile.FieldType.int), [])
theorem mo_Trial_targetSlot : MOK m_Trial_targetSlot := ⟨tq6 75 rfl rfl, rfl, kw_initialized_RowForge_Trial, by decide, by decide⟩
theorem ms_Trial_targetSlot : MS m_Trial_targetSlot 1 := ⟨mo_Trial_targetSlot, by decide +kernel, tq6 74 rfl rfl⟩
abbrev m_Trial_spreadCascades : MD := (⟨"RowForge$Trial", "spreadCascades", "()V"⟩, prog_11_method_11_code, 4, none, [])
theorem mo_Trial_spreadCascades : MOK m_Trial_spreadCascades := ⟨tq6 79 rfl rfl, rfl, kw_initialized_RowForge_Trial, by decide, by decide⟩
theorem mv_Trial_spreadCascades : MV m_Trial_spreadCascades 0 := ⟨mo_Trial_spreadCascades, by decide +kernel, tq6 78 rfl rfl, tb 17 rfl rfl⟩
abbrev m_Trial_refersToGone : MD := (⟨"RowForge$Trial", "refersToGone", "(II)Z"⟩, prog_11_method_10_code, 4, some (Jvm.ClassFile.FieldType.boolean), [])
theorem mo_Trial_refersToGone : MOK m_Trial_refersToGone := ⟨tq6 83 rfl rfl, rfl, kw_initialized_RowForge_Trial, by decide, by decide⟩
theorem mv_Trial_refersToGone : MV m_Trial_refersToGone 2 := ⟨mo_Trial_refersToGone, by decide +kernel, tq6 82 rfl rfl, tb 18 rfl rfl⟩
abbrev m_Trial_readReferring : MD := (⟨"RowForge$Trial", "readReferring", "(LRowForge$Transaction;)V"⟩, prog_11_method_12_code, 4, none, [])
theorem mo_Trial_readReferring : MOK m_Trial_readReferring := ⟨tq6 87 rfl rfl, rfl, kw_initialized_RowForge_Trial, by decide, by decide⟩
theorem mv_Trial_readReferring : MV m_Trial_readReferring 1 := ⟨mo_Trial_readReferring, by decide +kernel, tq6 86 rfl rfl, tb 19 rfl rfl⟩
abbrev m_Schema_refersTo : MD := (⟨"RowForge$Schema", "refersTo", "(II)Z"⟩, prog_9_method_9_code, 4, some (Jvm.ClassFile.FieldType.boolean), [])
theorem mo_Schema_refersTo : MOK m_Schema_refersTo := ⟨tq6 91 rfl rfl, rfl, kw_initialized_RowForge_Schema, by decide, by decide⟩
theorem mv_Schema_refersTo : MV m_Schema_refersTo 2 := ⟨mo_Schema_refersTo, by decide +kernel, tq6 89 rfl rfl, tq6 90 rfl rfl⟩
abbrev m_Transaction_readWhole : MD := (⟨"RowForge$Transaction", "readWhole", "(I)V"⟩, prog_10_method_6_code, 2, none, [])
theorem mo_Transaction_readWhole : MOK m_Transaction_readWhole := ⟨tq6 96 rfl rfl, rfl, kw_initialized_RowForge_Transaction, by decide, by decide⟩
theorem mv_Transaction_readWhole : MV m_Transaction_readWhole 1 := ⟨mo_Transaction_readWhole, by decide +kernel, tq6 94 rfl rfl, tq6 95 rfl rfl⟩
abbrev m_Trial_isRestricted : MD := (⟨"RowForge$Trial", "isRestricted", "()Z"⟩, prog_11_method_13_code, 2, some (Jvm.ClassFile.FieldType.boolean), [])
theorem mo_Trial_isRestricted : MOK m_Trial_isRestricted := ⟨tq6 100 rfl rfl, rfl, kw_initialized_RowForge_Trial, by decide, by decide⟩
theorem mv_Trial_isRestricted : MV m_Trial_isRestricted 0 := ⟨mo_Trial_isRestricted, by decide +kernel, tq6 99 rfl rfl, tb 20 rfl rfl⟩
abbrev m_Trial_changeRows : MD := (⟨"RowForge$Trial", "changeRows", "()V"⟩, prog_11_method_14_code, 2, none, [])
theorem mo_Trial_changeRows : MOK m_Trial_changeRows := ⟨tq6 104 rfl rfl, rfl, kw_initialized_RowForge_Trial, by decide, by decide⟩
theorem mv_Trial_changeRows : MV m_Trial_changeRows 0 := ⟨mo_Trial_changeRows, by decide +kernel, tq6 103 rfl rfl, tb 21 rfl rfl⟩
abbrev m_Rows_remove : MD := (⟨"RowForge$Rows", "remove", "(I)V"⟩, prog_8_method_11_code, 2, none, [])
theorem mo_Rows_remove : MOK m_Rows_remove := ⟨tq6 108 rfl rfl, rfl, kw_initialized_RowForge_Rows, by decide, by decide⟩
theorem mv_Rows_remove : MV m_Rows_remove 1 := ⟨mo_Rows_remove, by decide +kernel, tq6 106 rfl rfl, tq6 107 rfl rfl⟩
abbrev m_Trial_touchChanged : MD := (⟨"RowForge$Trial", "touchChanged", "(LRowForge$Rows;)V"⟩, prog_11_method_15_code, 3, none, [])
theorem mo_Trial_touchChanged : MOK m_Trial_touchChanged := ⟨tq6 113 rfl rfl, rfl, kw_initialized_RowForge_Trial, by decide, by decide⟩
theorem mv_Trial_touchChanged : MV m_Trial_touchChanged 1 := ⟨mo_Trial_touchChanged, by decide +kernel, tq6 112 rfl rfl, tb 22 rfl rfl⟩
abbrev m_Engine_firstOtherWriter : MD := (⟨"RowForge$Engine", "firstOtherWriter", "(I)I"⟩, prog_2_method_8_code, 5, some (Jvm.ClassFile.FieldType.int), [])
theorem mo_Engine_firstOtherWriter : MOK m_Engine_firstOtherWriter := ⟨tq6 118 rfl rfl, rfl, kw_initialized_RowForge_Engine, by decide, by decide⟩
theorem mv_Engine_firstOtherWriter : MV m_Engine_firstOtherWriter 1 := ⟨mo_Engine_firstOtherWriter, by decide +kernel, tq6 117 rfl rfl, tb 23 rfl rfl⟩
abbrev m_Engine_footprint : MD := (⟨"RowForge$Engine", "footprint", "(II)I"⟩, prog_2_method_6_code, 2, some (Jvm.ClassFile.FieldType.int), [])
theorem mo_Engine_footprint : MOK m_Engine_footprint := ⟨tq6 121 rfl rfl, rfl, kw_initialized_RowForge_Engine, by decide, by decide⟩
theorem ms_Engine_footprint : MS m_Engine_footprint 2 := ⟨mo_Engine_footprint, by decide +kernel, tq6 120 rfl rfl⟩
abbrev m_Engine_endsWaitingFor : MD := (⟨"RowForge$Engine", "endsWaitingFor", "(II)Z"⟩, prog_2_method_9_code, 5, some (Jvm.ClassFile.FieldType.boolean), [])
theorem mo_Engine_endsWaitingFor : MOK m_Engine_endsWaitingFor := ⟨tq6 126 rfl rfl, rfl, kw_initialized_RowForge_Engine, by decide, by decide⟩
theorem mv_Engine_endsWaitingFor : MV m_Engine_endsWaitingFor 2 := ⟨mo_Engine_endsWaitingFor, by decide +kernel, tq6 125 rfl rfl, tb 24 rfl rfl⟩
abbrev m_Engine_rollBack : MD := (⟨"RowForge$Engine", "rollBack", "(LRowForge$Transaction;)I"⟩, prog_2_method_15_code, 3, some (Jvm.ClassFile.FieldType.int), [])
theorem mo_Engine_rollBack : MOK m_Engine_rollBack := ⟨tq6 130 rfl rfl, rfl, kw_initialized_RowForge_Engine, by decide, by decide⟩
theorem mv_Engine_rollBack : MV m_Engine_rollBack 1 := ⟨mo_Engine_rollBack, by decide +kernel, tq6 128 rfl rfl, tq6 129 rfl rfl⟩
abbrev m_Log_undoWrites : MD := (⟨"RowForge$Log", "undoWrites", "(I)I"⟩, prog_4_method_13_code, 5, some (Jvm.ClassFile.FieldType.int), [])
theorem mo_Log_undoWrites : MOK m_Log_undoWrites := ⟨tq6 134 rfl rfl, rfl, kw_initialized_RowForge_Log, by decide, by decide⟩
theorem mv_Log_undoWrites : MV m_Log_undoWrites 1 := ⟨mo_Log_undoWrites, by decide +kernel, tq6 132 rfl rfl, tq6 133 rfl rfl⟩
abbrev m_Log_countUndone : MD := (⟨"RowForge$Log", "countUndone", "(I)I"⟩, prog_4_method_11_code, 4, some (Jvm.ClassFile.FieldType.int), [])
theorem mo_Log_countUndone : MOK m_Log_countUndone := ⟨tq6 138 rfl rfl, rfl, kw_initialized_RowForge_Log, by decide, by decide⟩
theorem mv_Log_countUndone : MV m_Log_countUndone 1 := ⟨mo_Log_countUndone, by decide +kernel, tq6 137 rfl rfl, tb 25 rfl rfl⟩
abbrev m_Log_kindOf : MD := (⟨"RowForge$Log", "kindOf", "(I)I"⟩, prog_4_method_7_code, 2, some (Jvm.ClassFile.FieldType.int), [])
theorem mo_Log_kindOf : MOK m_Log_kindOf := ⟨tq6 142 rfl rfl, rfl, kw_initialized_RowForge_Log, by decide, by decide⟩
theorem mv_Log_kindOf : MV m_Log_kindOf 1 := ⟨mo_Log_kindOf, by decide +kernel, tq6 140 rfl rfl, tq6 141 rfl rfl⟩
abbrev m_Log_writerOf : MD := (⟨"RowForge$Log", "writerOf", "(I)I"⟩, prog_4_method_8_code, 2, some (Jvm.ClassFile.FieldType.int), [])
theorem mo_Log_writerOf : MOK m_Log_writerOf := ⟨tq6 146 rfl rfl, rfl, kw_initialized_RowForge_Log, by decide, by decide⟩
theorem mv_Log_writerOf : MV m_Log_writerOf 1 := ⟨mo_Log_writerOf, by decide +kernel, tq6 144 rfl rfl, tq6 145 rfl rfl⟩
abbrev m_Log_tableOf : MD := (⟨"RowForge$Log", "tableOf", "(I)I"⟩, prog_4_method_9_code, 2, some (Jvm.ClassFile.FieldType.int), [])
theorem mo_Log_tableOf : MOK m_Log_tableOf := ⟨tq6 150 rfl rfl, rfl, kw_initialized_RowForge_Log, by decide, by decide⟩
theorem mv_Log_tableOf : MV m_Log_tableOf 1 := ⟨mo_Log_tableOf, by decide +kernel, tq6 148 rfl rfl, tq6 149 rfl rfl⟩
abbrev m_Log_keyOf : MD := (⟨"RowForge$Log", "keyOf", "(I)I"⟩, prog_4_method_10_code, 2, some (Jvm.ClassFile.FieldType.int), [])
theorem mo_Log_keyOf : MOK m_Log_keyOf := ⟨tq6 154 rfl rfl, rfl, kw_initialized_RowForge_Log, by decide, by decide⟩
theorem mv_Log_keyOf : MV m_Log_keyOf 1 := ⟨mo_Log_keyOf, by decide +kernel, tq6 152 rfl rfl, tq6 153 rfl rfl⟩
abbrev m_Engine_finish : MD := (⟨"RowForge$Engine", "finish", "(LRowForge$Transaction;I)V"⟩, prog_2_method_16_code, 4, none, [])
theorem mo_Engine_finish : MOK m_Engine_finish := ⟨tq6 159 rfl rfl, rfl, kw_initialized_RowForge_Engine, by decide, by decide⟩
theorem mv_Engine_finish : MV m_Engine_finish 2 := ⟨mo_Engine_finish, by decide +kernel, tq6 158 rfl rfl, tb 26 rfl rfl⟩
abbrev m_Engine_isOvertaken : MD := (⟨"RowForge$Engine", "isOvertaken", "(LRowForge$Transaction;)Z"⟩, prog_2_method_10_code, 3, some (Jvm.ClassFile.FieldType.boolean), [])
theorem mo_Engine_isOvertaken : MOK m_Engine_isOvertaken := ⟨tq6 163 rfl rfl, rfl, kw_initialized_RowForge_Engine, by decide, by decide⟩
theorem mv_Engine_isOvertaken : MV m_Engine_isOvertaken 1 := ⟨mo_Engine_isOvertaken, by decide +kernel, tq6 162 rfl rfl, tb 27 rfl rfl⟩
abbrev m_Engine_isCommittedSince : MD := (⟨"RowForge$Engine", "isCommittedSince", "(LRowForge$Transaction;II)Z"⟩, prog_2_method_11_code, 5, some (Jvm.ClassFile.FieldType.boolean), [])
theorem mo_Engine_isCommittedSince : MOK m_Engine_isCommittedSince := ⟨tq6 167 rfl rfl, rfl, kw_initialized_RowForge_Engine, by decide, by decide⟩
theorem mv_Engine_isCommittedSince : MV m_Engine_isCommittedSince 3 := ⟨mo_Engine_isCommittedSince, by decide +kernel, tq6 166 rfl rfl, tb 28 rfl rfl⟩
abbrev m_Engine_carryOut : MD := (⟨"RowForge$Engine", "carryOut", "(LRowForge$Transaction;)V"⟩, prog_2_method_12_code, 4, none, [])
theorem mo_Engine_carryOut : MOK m_Engine_carryOut := ⟨tq6 171 rfl rfl, rfl, kw_initialized_RowForge_Engine, by decide, by decide⟩
theorem mv_Engine_carryOut : MV m_Engine_carryOut 1 := ⟨mo_Engine_carryOut, by decide +kernel, tq6 170 rfl rfl, tb 29 rfl rfl⟩
abbrev m_Transaction_noteFootprint : MD := (⟨"RowForge$Transaction", "noteFootprint", "(I)V"⟩, prog_10_method_11_code, 2, none, [])
theorem mo_Transaction_noteFootprint : MOK m_Transaction_noteFootprint := ⟨tq6 175 rfl rfl, rfl, kw_initialized_RowForge_Transaction, by decide, by decide⟩
theorem mv_Transaction_noteFootprint : MV m_Transaction_noteFootprint 1 := ⟨mo_Transaction_noteFootprint, by decide +kernel, tq6 173 rfl rfl, tq6 174 rfl rfl⟩
abbrev m_Log_addWrite : MD := (⟨"RowForge$Log", "addWrite", "(IIILRowForge$Rows;)V"⟩, prog_4_method_3_code, 6, none, [])
theorem mo_Log_addWrite : MOK m_Log_addWrite := ⟨tq6 179 rfl rfl, rfl, kw_initialized_RowForge_Log, by decide, by decide⟩
theorem mv_Log_addWrite : MV m_Log_addWrite 4 := ⟨mo_Log_addWrite, by decide +kernel, tq6 177 rfl rfl, tq6 178 rfl rfl⟩
abbrev m_Law_update : MD := (⟨"RowForgeLaw", "update", "(LRowForge;IIIII[J)I"⟩, method_10_code, 8, some (Jvm.ClassFile.FieldType.int), [((0 : Nat), (16 : Nat), (19 : Nat), (21 : Nat)), ((0 : Nat), (16 : Nat), (23 : Nat), (13 : Nat)), ((0 : Nat), (16 : Nat), (27 : Nat), (15 : Nat))])
theorem cd_Law_update : (Jvm.Cond.codeWith ({ cls := "RowForgeLaw", name := "update", desc := "(LRowForge;IIIII[J)I" } : Jvm.MethodName) method_10_code (8 : Nat) (Option.some Jvm.ClassFile.FieldType.int) [((0 : Nat), (16 : Nat), (19 : Nat), (21 : Nat)), ((0 : Nat), (16 : Nat), (23 : Nat), (13 : Nat)), ((0 : Nat), (16 : Nat), (27 : Nat), (15 : Nat))]) ∈ TB := tq6 185 rfl rfl
abbrev m_F_update : MD := (⟨"RowForge", "update", "(IIIII)I"⟩, prog_1_method_9_code, 7, some (Jvm.ClassFile.FieldType.int), [])
theorem mo_F_update : MOK m_F_update := ⟨tq6 189 rfl rfl, rfl, kw_initialized_RowForge, by decide, by decide⟩
theorem mv_F_update : MV m_F_update 5 := ⟨mo_F_update, by decide +kernel, tq6 187 rfl rfl, tq6 188 rfl rfl⟩
abbrev m_Transaction_planUpdate : MD := (⟨"RowForge$Transaction", "planUpdate", "(IIII)V"⟩, prog_10_method_4_code, 5, none, [])
theorem mo_Transaction_planUpdate : MOK m_Transaction_planUpdate := ⟨tq6 193 rfl rfl, rfl, kw_initialized_RowForge_Transaction, by decide, by decide⟩
theorem mv_Transaction_planUpdate : MV m_Transaction_planUpdate 4 := ⟨mo_Transaction_planUpdate, by decide +kernel, tq6 191 rfl rfl, tq6 192 rfl rfl⟩
abbrev m_Law_delete : MD := (⟨"RowForgeLaw", "delete", "(LRowForge;III[J)I"⟩, method_11_code, 6, some (Jvm.ClassFile.FieldType.int), [((0 : Nat), (12 : Nat), (15 : Nat), (21 : Nat)), ((0 : Nat), (12 : Nat), (19 : Nat), (15 : Nat))])
theorem cd_Law_delete : (Jvm.Cond.codeWith ({ cls := "RowForgeLaw", name := "delete", desc := "(LRowForge;III[J)I" } : Jvm.MethodName) method_11_code (6 : Nat) (Option.some Jvm.ClassFile.FieldType.int) [((0 : Nat), (12 : Nat), (15 : Nat), (21 : Nat)), ((0 : Nat), (12 : Nat), (19 : Nat), (15 : Nat))]) ∈ TB := tq6 196 rfl rfl
abbrev m_F_delete : MD := (⟨"RowForge", "delete", "(III)I"⟩, prog_1_method_10_code, 5, some (Jvm.ClassFile.FieldType.int), [])
theorem mo_F_delete : MOK m_F_delete := ⟨tq6 200 rfl rfl, rfl, kw_initialized_RowForge, by decide, by decide⟩
theorem mv_F_delete : MV m_F_delete 3 := ⟨mo_F_delete, by decide +kernel, tq6 198 rfl rfl, tq6 199 rfl rfl⟩
abbrev m_Transaction_planDelete : MD := (⟨"RowForge$Transaction", "planDelete", "(II)V"⟩, prog_10_method_5_code, 3, none, [])
theorem mo_Transaction_planDelete : MOK m_Transaction_planDelete := ⟨tq6 204 rfl rfl, rfl, kw_initialized_RowForge_Transaction, by decide, by decide⟩
theorem mv_Transaction_planDelete : MV m_Transaction_planDelete 2 := ⟨mo_Transaction_planDelete, by decide +kernel, tq6 202 rfl rfl, tq6 203 rfl rfl⟩
abbrev m_Law_commit : MD := (⟨"RowForgeLaw", "commit", "(LRowForge;I[J)I"⟩, method_12_code, 4, some (Jvm.ClassFile.FieldType.int), [((0 : Nat), (9 : Nat), (12 : Nat), (21 : Nat)), ((0 : Nat), (9 : Nat), (15 : Nat), (15 : Nat))])
theorem cd_Law_commit : (Jvm.Cond.codeWith ({ cls := "RowForgeLaw", name := "commit", desc := "(LRowForge;I[J)I" } : Jvm.MethodName) method_12_code (4 : Nat) (Option.some Jvm.ClassFile.FieldType.int) [((0 : Nat), (9 : Nat), (12 : Nat), (21 : Nat)), ((0 : Nat), (9 : Nat), (15 : Nat), (15 : Nat))]) ∈ TB := tq6 207 rfl rfl
abbrev m_F_commit : MD := (⟨"RowForge", "commit", "(I)I"⟩, prog_1_method_11_code, 3, some (Jvm.ClassFile.FieldType.int), [])
theorem mo_F_commit : MOK m_F_commit := ⟨tq6 211 rfl rfl, rfl, kw_initialized_RowForge, by decide, by decide⟩
theorem mv_F_commit : MV m_F_commit 1 := ⟨mo_F_commit, by decide +kernel, tq6 209 rfl rfl, tq6 210 rfl rfl⟩
abbrev m_Engine_tryCommit : MD := (⟨"RowForge$Engine", "tryCommit", "(LRowForge$Transaction;)I"⟩, prog_2_method_17_code, 3, some (Jvm.ClassFile.FieldType.int), [])
theorem mo_Engine_tryCommit : MOK m_Engine_tryCommit := ⟨tq6 215 rfl rfl, rfl, kw_initialized_RowForge_Engine, by decide, by decide⟩
theorem mv_Engine_tryCommit : MV m_Engine_tryCommit 1 := ⟨mo_Engine_tryCommit, by decide +kernel, tq6 213 rfl rfl, tq6 214 rfl rfl⟩
abbrev m_Engine_hasStaleRead : MD := (⟨"RowForge$Engine", "hasStaleRead", "(LRowForge$Transaction;)Z"⟩, prog_2_method_18_code, 3, some (Jvm.ClassFile.FieldType.boolean), [])
theorem mo_Engine_hasStaleRead : MOK m_Engine_hasStaleRead := ⟨tq6 219 rfl rfl, rfl, kw_initialized_RowForge_Engine, by decide, by decide⟩
theorem mv_Engine_hasStaleRead : MV m_Engine_hasStaleRead 1 := ⟨mo_Engine_hasStaleRead, by decide +kernel, tq6 218 rfl rfl, tb 30 rfl rfl⟩
abbrev m_Transaction_hasReadWhole : MD := (⟨"RowForge$Transaction", "hasReadWhole", "(I)Z"⟩, prog_10_method_7_code, 2, some (Jvm.ClassFile.FieldType.boolean), [])
theorem mo_Transaction_hasReadWhole : MOK m_Transaction_hasReadWhole := ⟨tq6 223 rfl rfl, rfl, kw_initialized_RowForge_Transaction, by decide, by decide⟩
theorem mv_Transaction_hasReadWhole : MV m_Transaction_hasReadWhole 1 := ⟨mo_Transaction_hasReadWhole, by decide +kernel, tq6 221 rfl rfl, tq6 222 rfl rfl⟩
abbrev m_Engine_overfills : MD := (⟨"RowForge$Engine", "overfills", "(ILRowForge$Rows;)Z"⟩, prog_2_method_20_code, 6, some (Jvm.ClassFile.FieldType.boolean), [])
theorem mo_Engine_overfills : MOK m_Engine_overfills := ⟨tq6 227 rfl rfl, rfl, kw_initialized_RowForge_Engine, by decide, by decide⟩
theorem mv_Engine_overfills : MV m_Engine_overfills 2 := ⟨mo_Engine_overfills, by decide +kernel, tq6 226 rfl rfl, tb 31 rfl rfl⟩
abbrev m_Engine_isWrittenBy : MD := (⟨"RowForge$Engine", "isWrittenBy", "(III)Z"⟩, prog_2_method_19_code, 5, some (Jvm.ClassFile.FieldType.boolean), [])
theorem mo_Engine_isWrittenBy : MOK m_Engine_isWrittenBy := ⟨tq6 233 rfl rfl, rfl, kw_initialized_RowForge_Engine, by decide, by decide⟩
theorem mv_Engine_isWrittenBy : MV m_Engine_isWrittenBy 3 := ⟨mo_Engine_isWrittenBy, by decide +kernel, tq6 232 rfl rfl, tb 32 rfl rfl⟩
abbrev m_Engine_store : MD := (⟨"RowForge$Engine", "store", "(LRowForge$Transaction;)V"⟩, prog_2_method_21_code, 5, none, [])
theorem mo_Engine_store : MOK m_Engine_store := ⟨tq6 237 rfl rfl, rfl, kw_initialized_RowForge_Engine, by decide, by decide⟩
theorem mv_Engine_store : MV m_Engine_store 1 := ⟨mo_Engine_store, by decide +kernel, tq6 236 rfl rfl, tb 33 rfl rfl⟩
abbrev m_Engine_stampWrites : MD := (⟨"RowForge$Engine", "stampWrites", "(LRowForge$Transaction;)V"⟩, prog_2_method_22_code, 4, none, [])
theorem mo_Engine_stampWrites : MOK m_Engine_stampWrites := ⟨tq7 5 rfl rfl, rfl, kw_initialized_RowForge_Engine, by decide, by decide⟩
theorem mv_Engine_stampWrites : MV m_Engine_stampWrites 1 := ⟨mo_Engine_stampWrites, by decide +kernel, tq7 4 rfl rfl, tb 34 rfl rfl⟩
abbrev m_F_refreshViews : MD := (⟨"RowForge", "refreshViews", "()V"⟩, prog_1_method_62_code, 2, none, [])
theorem mo_F_refreshViews : MOK m_F_refreshViews := ⟨tq7 11 rfl rfl, rfl, kw_initialized_RowForge, by decide, by decide⟩
theorem mv_F_refreshViews : MV m_F_refreshViews 0 := ⟨mo_F_refreshViews, by decide +kernel, tq7 10 rfl rfl, tb 35 rfl rfl⟩
abbrev m_Evaluator_evaluate : MD := (⟨"RowForge$Evaluator", "evaluate", "(LRowForge$Query;LRowForge$Rows;I)LRowForge$Relation;"⟩, prog_3_method_2_code, 6, some ((Jvm.ClassFile.FieldType.object "RowForge$Relation")), [])
theorem mo_Evaluator_evaluate : MOK m_Evaluator_evaluate := ⟨tq7 15 rfl rfl, rfl, kw_initialized_RowForge_Evaluator, by decide, by decide⟩
theorem mv_Evaluator_evaluate : MV m_Evaluator_evaluate 3 := ⟨mo_Evaluator_evaluate, by decide +kernel, tq7 13 rfl rfl, tq7 14 rfl rfl⟩
abbrev m_Evaluator_step : MD := (⟨"RowForge$Evaluator", "step", "(LRowForge$Query;ILRowForge$Rows;I)V"⟩, prog_3_method_3_code, 9, none, [])
theorem mo_Evaluator_step : MOK m_Evaluator_step := ⟨tq7 19 rfl rfl, rfl, kw_initialized_RowForge_Evaluator, by decide, by decide⟩
theorem mv_Evaluator_step : MV m_Evaluator_step 4 := ⟨mo_Evaluator_step, by decide +kernel, tq7 18 rfl rfl, tb 36 rfl rfl⟩
abbrev m_Relation_reset : MD := (⟨"RowForge$Relation", "reset", "(I)V"⟩, prog_7_method_2_code, 2, none, [])
theorem mo_Relation_reset : MOK m_Relation_reset := ⟨tq7 23 rfl rfl, rfl, kw_initialized_RowForge_Relation, by decide, by decide⟩
theorem mv_Relation_reset : MV m_Relation_reset 1 := ⟨mo_Relation_reset, by decide +kernel, tq7 21 rfl rfl, tq7 22 rfl rfl⟩
abbrev m_Query_parameter : MD := (⟨"RowForge$Query", "parameter", "(II)I"⟩, prog_6_method_6_code, 3, some (Jvm.ClassFile.FieldType.int), [])
theorem mo_Query_parameter : MOK m_Query_parameter := ⟨tq7 27 rfl rfl, rfl, kw_initialized_RowForge_Query, by decide, by decide⟩
theorem mv_Query_parameter : MV m_Query_parameter 2 := ⟨mo_Query_parameter, by decide +kernel, tq7 25 rfl rfl, tq7 26 rfl rfl⟩
abbrev m_Evaluator_scanInto : MD := (⟨"RowForge$Evaluator", "scanInto", "(LRowForge$Relation;ILRowForge$Rows;I)V"⟩, prog_3_method_4_code, 7, none, [])
theorem mo_Evaluator_scanInto : MOK m_Evaluator_scanInto := ⟨tq7 31 rfl rfl, rfl, kw_initialized_RowForge_Evaluator, by decide, by decide⟩
theorem mv_Evaluator_scanInto : MV m_Evaluator_scanInto 4 := ⟨mo_Evaluator_scanInto, by decide +kernel, tq7 30 rfl rfl, tb 37 rfl rfl⟩
abbrev m_Relation_add : MD := (⟨"RowForge$Relation", "add", "([II)V"⟩, prog_7_method_6_code, 3, none, [])
theorem mo_Relation_add : MOK m_Relation_add := ⟨tq7 39 rfl rfl, rfl, kw_initialized_RowForge_Relation, by decide, by decide⟩
theorem mv_Relation_add : MV m_Relation_add 2 := ⟨mo_Relation_add, by decide +kernel, tq7 37 rfl rfl, tq7 38 rfl rfl⟩
abbrev m_Evaluator_changeInto : MD := (⟨"RowForge$Evaluator", "changeInto", "(LRowForge$Relation;LRowForge$Relation;LRowForge$Query;I)V"⟩, prog_3_method_5_code, 9, none, [])
theorem mo_Evaluator_changeInto : MOK m_Evaluator_changeInto := ⟨tq7 44 rfl rfl, rfl, kw_initialized_RowForge_Evaluator, by decide, by decide⟩
theorem mv_Evaluator_changeInto : MV m_Evaluator_changeInto 4 := ⟨mo_Evaluator_changeInto, by decide +kernel, tq7 43 rfl rfl, tb 38 rfl rfl⟩
abbrev m_Evaluator_filterInto : MD := (⟨"RowForge$Evaluator", "filterInto", "(LRowForge$Relation;LRowForge$Relation;IIIZ)V"⟩, prog_3_method_6_code, 8, none, [])
theorem mo_Evaluator_filterInto : MOK m_Evaluator_filterInto := ⟨tq7 48 rfl rfl, rfl, kw_initialized_RowForge_Evaluator, by decide, by decide⟩
theorem mv_Evaluator_filterInto : MV m_Evaluator_filterInto 6 := ⟨mo_Evaluator_filterInto, by decide +kernel, tq7 47 rfl rfl, tb 39 rfl rfl⟩
abbrev m_Relation_cell : MD := (⟨"RowForge$Relation", "cell", "(II)I"⟩, prog_7_method_5_code, 3, some (Jvm.ClassFile.FieldType.int), [])
theorem mo_Relation_cell : MOK m_Relation_cell := ⟨tq7 52 rfl rfl, rfl, kw_initialized_RowForge_Relation, by decide, by decide⟩
theorem mv_Relation_cell : MV m_Relation_cell 2 := ⟨mo_Relation_cell, by decide +kernel, tq7 50 rfl rfl, tq7 51 rfl rfl⟩
abbrev m_Relation_addRow : MD := (⟨"RowForge$Relation", "addRow", "(LRowForge$Relation;I)V"⟩, prog_7_method_7_code, 3, none, [])
theorem mo_Relation_addRow : MOK m_Relation_addRow := ⟨tq7 57 rfl rfl, rfl, kw_initialized_RowForge_Relation, by decide, by decide⟩
theorem mv_Relation_addRow : MV m_Relation_addRow 2 := ⟨mo_Relation_addRow, by decide +kernel, tq7 55 rfl rfl, tq7 56 rfl rfl⟩
abbrev m_Evaluator_pairInto : MD := (⟨"RowForge$Evaluator", "pairInto", "(LRowForge$Relation;LRowForge$Relation;IIIZ)V"⟩, prog_3_method_7_code, 8, none, [])
theorem mo_Evaluator_pairInto : MOK m_Evaluator_pairInto := ⟨tq7 62 rfl rfl, rfl, kw_initialized_RowForge_Evaluator, by decide, by decide⟩
theorem mv_Evaluator_pairInto : MV m_Evaluator_pairInto 6 := ⟨mo_Evaluator_pairInto, by decide +kernel, tq7 61 rfl rfl, tb 40 rfl rfl⟩
abbrev m_Evaluator_ratioInto : MD := (⟨"RowForge$Evaluator", "ratioInto", "(LRowForge$Relation;LRowForge$Relation;III)V"⟩, prog_3_method_8_code, 9, none, [])
theorem mo_Evaluator_ratioInto : MOK m_Evaluator_ratioInto := ⟨tq7 66 rfl rfl, rfl, kw_initialized_RowForge_Evaluator, by decide, by decide⟩
theorem mv_Evaluator_ratioInto : MV m_Evaluator_ratioInto 5 := ⟨mo_Evaluator_ratioInto, by decide +kernel, tq7 65 rfl rfl, tb 41 rfl rfl⟩
abbrev m_Evaluator_keepInto : MD := (⟨"RowForge$Evaluator", "keepInto", "(LRowForge$Relation;LRowForge$Relation;I)V"⟩, prog_3_method_9_code, 7, none, [])
theorem mo_Evaluator_keepInto : MOK m_Evaluator_keepInto := ⟨tq7 70 rfl rfl, rfl, kw_initialized_RowForge_Evaluator, by decide, by decide⟩
theorem mv_Evaluator_keepInto : MV m_Evaluator_keepInto 3 := ⟨mo_Evaluator_keepInto, by decide +kernel, tq7 69 rfl rfl, tb 42 rfl rfl⟩
abbrev m_Evaluator_groupInto : MD := (⟨"RowForge$Evaluator", "groupInto", "(LRowForge$Relation;LRowForge$Relation;III)V"⟩, prog_3_method_10_code, 10, none, [])
theorem mo_Evaluator_groupInto : MOK m_Evaluator_groupInto := ⟨tq7 74 rfl rfl, rfl, kw_initialized_RowForge_Evaluator, by decide, by decide⟩
theorem mv_Evaluator_groupInto : MV m_Evaluator_groupInto 5 := ⟨mo_Evaluator_groupInto, by decide +kernel, tq7 73 rfl rfl, tb 43 rfl rfl⟩
abbrev m_Evaluator_addGroup : MD := (⟨"RowForge$Evaluator", "addGroup", "(LRowForge$Relation;II)V"⟩, prog_3_method_12_code, 4, none, [])
theorem mo_Evaluator_addGroup : MOK m_Evaluator_addGroup := ⟨tq7 77 rfl rfl, rfl, kw_initialized_RowForge_Evaluator, by decide, by decide⟩
theorem ms_Evaluator_addGroup : MS m_Evaluator_addGroup 3 := ⟨mo_Evaluator_addGroup, by decide +kernel, tq7 76 rfl rfl⟩
abbrev m_Evaluator_groupOf : MD := (⟨"RowForge$Evaluator", "groupOf", "(LRowForge$Relation;I)I"⟩, prog_3_method_11_code, 3, some (Jvm.ClassFile.FieldType.int), [])
theorem mo_Evaluator_groupOf : MOK m_Evaluator_groupOf := ⟨tq7 80 rfl rfl, rfl, kw_initialized_RowForge_Evaluator, by decide, by decide⟩
theorem ms_Evaluator_groupOf : MS m_Evaluator_groupOf 2 := ⟨mo_Evaluator_groupOf, by decide +kernel, tq7 79 rfl rfl⟩
abbrev m_Evaluator_gathered : MD := (⟨"RowForge$Evaluator", "gathered", "(III)I"⟩, prog_3_method_13_code, 3, some (Jvm.ClassFile.FieldType.int), [])
theorem mo_Evaluator_gathered : MOK m_Evaluator_gathered := ⟨tq7 83 rfl rfl, rfl, kw_initialized_RowForge_Evaluator, by decide, by decide⟩
theorem ms_Evaluator_gathered : MS m_Evaluator_gathered 3 := ⟨mo_Evaluator_gathered, by decide +kernel, tq7 82 rfl rfl⟩
abbrev m_Evaluator_joinInto : MD := (⟨"RowForge$Evaluator", "joinInto", "(LRowForge$Relation;LRowForge$Relation;LRowForge$Relation;LRowForge$Query;I)V"⟩, prog_3_method_14_code, 12, none, [])
theorem mo_Evaluator_joinInto : MOK m_Evaluator_joinInto := ⟨tq7 89 rfl rfl, rfl, kw_initialized_RowForge_Evaluator, by decide, by decide⟩
theorem mv_Evaluator_joinInto : MV m_Evaluator_joinInto 5 := ⟨mo_Evaluator_joinInto, by decide +kernel, tq7 88 rfl rfl, tb 44 rfl rfl⟩
abbrev m_Relation_addPair : MD := (⟨"RowForge$Relation", "addPair", "(LRowForge$Relation;ILRowForge$Relation;I)V"⟩, prog_7_method_8_code, 5, none, [])
theorem mo_Relation_addPair : MOK m_Relation_addPair := ⟨tq7 93 rfl rfl, rfl, kw_initialized_RowForge_Relation, by decide, by decide⟩
theorem mv_Relation_addPair : MV m_Relation_addPair 4 := ⟨mo_Relation_addPair, by decide +kernel, tq7 91 rfl rfl, tq7 92 rfl rfl⟩
abbrev m_Relation_fillPart : MD := (⟨"RowForge$Relation", "fillPart", "(ILRowForge$Relation;I)V"⟩, prog_7_method_9_code, 5, none, [])
theorem mo_Relation_fillPart : MOK m_Relation_fillPart := ⟨tq7 97 rfl rfl, rfl, kw_initialized_RowForge_Relation, by decide, by decide⟩
theorem mv_Relation_fillPart : MV m_Relation_fillPart 3 := ⟨mo_Relation_fillPart, by decide +kernel, tq7 96 rfl rfl, tb 45 rfl rfl⟩
abbrev m_Evaluator_addLeft : MD := (⟨"RowForge$Evaluator", "addLeft", "(LRowForge$Relation;LRowForge$Relation;ILRowForge$Relation;IZ)V"⟩, prog_3_method_15_code, 6, none, [])
theorem mo_Evaluator_addLeft : MOK m_Evaluator_addLeft := ⟨tq7 102 rfl rfl, rfl, kw_initialized_RowForge_Evaluator, by decide, by decide⟩
theorem ms_Evaluator_addLeft : MS m_Evaluator_addLeft 6 := ⟨mo_Evaluator_addLeft, by decide +kernel, tq7 101 rfl rfl⟩
abbrev m_Evaluator_combineInto : MD := (⟨"RowForge$Evaluator", "combineInto", "(LRowForge$Relation;LRowForge$Relation;LRowForge$Relation;I)V"⟩, prog_3_method_16_code, 5, none, [])
theorem mo_Evaluator_combineInto : MOK m_Evaluator_combineInto := ⟨tq7 105 rfl rfl, rfl, kw_initialized_RowForge_Evaluator, by decide, by decide⟩
theorem ms_Evaluator_combineInto : MS m_Evaluator_combineInto 4 := ⟨mo_Evaluator_combineInto, by decide +kernel, tq7 104 rfl rfl⟩
abbrev m_Relation_holds : MD := (⟨"RowForge$Relation", "holds", "(LRowForge$Relation;I)Z"⟩, prog_7_method_11_code, 4, some (Jvm.ClassFile.FieldType.boolean), [])
theorem mo_Relation_holds : MOK m_Relation_holds := ⟨tq7 109 rfl rfl, rfl, kw_initialized_RowForge_Relation, by decide, by decide⟩
theorem mv_Relation_holds : MV m_Relation_holds 2 := ⟨mo_Relation_holds, by decide +kernel, tq7 107 rfl rfl, tq7 108 rfl rfl⟩
abbrev m_Relation_compareRows : MD := (⟨"RowForge$Relation", "compareRows", "(ILRowForge$Relation;I)I"⟩, prog_7_method_12_code, 6, some (Jvm.ClassFile.FieldType.int), [])
theorem mo_Relation_compareRows : MOK m_Relation_compareRows := ⟨tq7 113 rfl rfl, rfl, kw_initialized_RowForge_Relation, by decide, by decide⟩
theorem mv_Relation_compareRows : MV m_Relation_compareRows 3 := ⟨mo_Relation_compareRows, by decide +kernel, tq7 111 rfl rfl, tq7 112 rfl rfl⟩
abbrev m_Relation_addOnce : MD := (⟨"RowForge$Relation", "addOnce", "(LRowForge$Relation;I)V"⟩, prog_7_method_10_code, 3, none, [])
theorem mo_Relation_addOnce : MOK m_Relation_addOnce := ⟨tq7 118 rfl rfl, rfl, kw_initialized_RowForge_Relation, by decide, by decide⟩
theorem mv_Relation_addOnce : MV m_Relation_addOnce 2 := ⟨mo_Relation_addOnce, by decide +kernel, tq7 116 rfl rfl, tq7 117 rfl rfl⟩
abbrev m_Relation_orderInto : MD := (⟨"RowForge$Relation", "orderInto", "([I[I)V"⟩, prog_7_method_13_code, 5, none, [])
theorem mo_Relation_orderInto : MOK m_Relation_orderInto := ⟨tq7 124 rfl rfl, rfl, kw_initialized_RowForge_Relation, by decide, by decide⟩
theorem mv_Relation_orderInto : MV m_Relation_orderInto 2 := ⟨mo_Relation_orderInto, by decide +kernel, tq7 122 rfl rfl, tq7 123 rfl rfl⟩
abbrev m_Relation_merge : MD := (⟨"RowForge$Relation", "merge", "([I[IIII)V"⟩, prog_7_method_14_code, 9, none, [])
theorem mo_Relation_merge : MOK m_Relation_merge := ⟨tq7 129 rfl rfl, rfl, kw_initialized_RowForge_Relation, by decide, by decide⟩
theorem mv_Relation_merge : MV m_Relation_merge 5 := ⟨mo_Relation_merge, by decide +kernel, tq7 128 rfl rfl, tb 46 rfl rfl⟩
abbrev m_Relation_copyFrom : MD := (⟨"RowForge$Relation", "copyFrom", "(LRowForge$Relation;)V"⟩, prog_7_method_3_code, 2, none, [])
theorem mo_Relation_copyFrom : MOK m_Relation_copyFrom := ⟨tq7 133 rfl rfl, rfl, kw_initialized_RowForge_Relation, by decide, by decide⟩
theorem mv_Relation_copyFrom : MV m_Relation_copyFrom 1 := ⟨mo_Relation_copyFrom, by decide +kernel, tq7 131 rfl rfl, tq7 132 rfl rfl⟩
abbrev m_Law_abort : MD := (⟨"RowForgeLaw", "abort", "(LRowForge;I[J)I"⟩, method_13_code, 4, some (Jvm.ClassFile.FieldType.int), [((0 : Nat), (9 : Nat), (12 : Nat), (21 : Nat)), ((0 : Nat), (9 : Nat), (15 : Nat), (15 : Nat))])
theorem cd_Law_abort : (Jvm.Cond.codeWith ({ cls := "RowForgeLaw", name := "abort", desc := "(LRowForge;I[J)I" } : Jvm.MethodName) method_13_code (4 : Nat) (Option.some Jvm.ClassFile.FieldType.int) [((0 : Nat), (9 : Nat), (12 : Nat), (21 : Nat)), ((0 : Nat), (9 : Nat), (15 : Nat), (15 : Nat))]) ∈ TB := tq7 136 rfl rfl
abbrev m_F_abort : MD := (⟨"RowForge", "abort", "(I)I"⟩, prog_1_method_12_code, 4, some (Jvm.ClassFile.FieldType.int), [])
theorem mo_F_abort : MOK m_F_abort := ⟨tq7 140 rfl rfl, rfl, kw_initialized_RowForge, by decide, by decide⟩
theorem mv_F_abort : MV m_F_abort 1 := ⟨mo_F_abort, by decide +kernel, tq7 138 rfl rfl, tq7 139 rfl rfl⟩
abbrev m_Law_state : MD := (⟨"RowForgeLaw", "state", "(LRowForge;I[J)I"⟩, method_14_code, 4, some (Jvm.ClassFile.FieldType.int), [((0 : Nat), (9 : Nat), (12 : Nat), (21 : Nat))])
theorem cd_Law_state : (Jvm.Cond.codeWith ({ cls := "RowForgeLaw", name := "state", desc := "(LRowForge;I[J)I" } : Jvm.MethodName) method_14_code (4 : Nat) (Option.some Jvm.ClassFile.FieldType.int) [((0 : Nat), (9 : Nat), (12 : Nat), (21 : Nat))]) ∈ TB := tq7 145 rfl rfl
abbrev m_F_state : MD := (⟨"RowForge", "state", "(I)I"⟩, prog_1_method_13_code, 2, some (Jvm.ClassFile.FieldType.int), [])
theorem mo_F_state : MOK m_F_state := ⟨tq7 149 rfl rfl, rfl, kw_initialized_RowForge, by decide, by decide⟩
theorem mv_F_state : MV m_F_state 1 := ⟨mo_F_state, by decide +kernel, tq7 147 rfl rfl, tq7 148 rfl rfl⟩
abbrev m_Law_outcome : MD := (⟨"RowForgeLaw", "outcome", "(LRowForge;I[J)I"⟩, method_15_code, 4, some (Jvm.ClassFile.FieldType.int), [((0 : Nat), (9 : Nat), (12 : Nat), (21 : Nat))])
theorem cd_Law_outcome : (Jvm.Cond.codeWith ({ cls := "RowForgeLaw", name := "outcome", desc := "(LRowForge;I[J)I" } : Jvm.MethodName) method_15_code (4 : Nat) (Option.some Jvm.ClassFile.FieldType.int) [((0 : Nat), (9 : Nat), (12 : Nat), (21 : Nat))]) ∈ TB := tq7 152 rfl rfl
abbrev m_F_outcome : MD := (⟨"RowForge", "outcome", "(I)I"⟩, prog_1_method_14_code, 2, some (Jvm.ClassFile.FieldType.int), [])
theorem mo_F_outcome : MOK m_F_outcome := ⟨tq7 156 rfl rfl, rfl, kw_initialized_RowForge, by decide, by decide⟩
theorem mv_F_outcome : MV m_F_outcome 1 := ⟨mo_F_outcome, by decide +kernel, tq7 154 rfl rfl, tq7 155 rfl rfl⟩
abbrev m_Law_waitsFor : MD := (⟨"RowForgeLaw", "waitsFor", "(LRowForge;I[J)I"⟩, method_16_code, 4, some (Jvm.ClassFile.FieldType.int), [((0 : Nat), (9 : Nat), (12 : Nat), (21 : Nat))])
theorem cd_Law_waitsFor : (Jvm.Cond.codeWith ({ cls := "RowForgeLaw", name := "waitsFor", desc := "(LRowForge;I[J)I" } : Jvm.MethodName) method_16_code (4 : Nat) (Option.some Jvm.ClassFile.FieldType.int) [((0 : Nat), (9 : Nat), (12 : Nat), (21 : Nat))]) ∈ TB := tq7 159 rfl rfl
abbrev m_F_waitsFor : MD := (⟨"RowForge", "waitsFor", "(I)I"⟩, prog_1_method_15_code, 2, some (Jvm.ClassFile.FieldType.int), [])
theorem mo_F_waitsFor : MOK m_F_waitsFor := ⟨tq7 163 rfl rfl, rfl, kw_initialized_RowForge, by decide, by decide⟩
theorem mv_F_waitsFor : MV m_F_waitsFor 1 := ⟨mo_F_waitsFor, by decide +kernel, tq7 161 rfl rfl, tq7 162 rfl rfl⟩
abbrev m_Law_hasRead : MD := (⟨"RowForgeLaw", "hasRead", "(LRowForge;III[J)I"⟩, method_17_code, 6, some (Jvm.ClassFile.FieldType.int), [((0 : Nat), (19 : Nat), (22 : Nat), (21 : Nat))])
theorem cd_Law_hasRead : (Jvm.Cond.codeWith ({ cls := "RowForgeLaw", name := "hasRead", desc := "(LRowForge;III[J)I" } : Jvm.MethodName) method_17_code (6 : Nat) (Option.some Jvm.ClassFile.FieldType.int) [((0 : Nat), (19 : Nat), (22 : Nat), (21 : Nat))]) ∈ TB := tq7 166 rfl rfl
abbrev m_F_hasRead : MD := (⟨"RowForge", "hasRead", "(III)Z"⟩, prog_1_method_16_code, 4, some (Jvm.ClassFile.FieldType.boolean), [])
theorem mo_F_hasRead : MOK m_F_hasRead := ⟨tq7 170 rfl rfl, rfl, kw_initialized_RowForge, by decide, by decide⟩
theorem mv_F_hasRead : MV m_F_hasRead 3 := ⟨mo_F_hasRead, by decide +kernel, tq7 168 rfl rfl, tq7 169 rfl rfl⟩
abbrev m_Transaction_knows : MD := (⟨"RowForge$Transaction", "knows", "(II)Z"⟩, prog_10_method_10_code, 3, some (Jvm.ClassFile.FieldType.boolean), [])
theorem mo_Transaction_knows : MOK m_Transaction_knows := ⟨tq7 174 rfl rfl, rfl, kw_initialized_RowForge_Transaction, by decide, by decide⟩
theorem mv_Transaction_knows : MV m_Transaction_knows 2 := ⟨mo_Transaction_knows, by decide +kernel, tq7 172 rfl rfl, tq7 173 rfl rfl⟩
abbrev m_Law_own : MD := (⟨"RowForgeLaw", "own", "(LRowForge;IIII[J)I"⟩, method_18_code, 7, some (Jvm.ClassFile.FieldType.int), [((0 : Nat), (14 : Nat), (17 : Nat), (21 : Nat))])
theorem cd_Law_own : (Jvm.Cond.codeWith ({ cls := "RowForgeLaw", name := "own", desc := "(LRowForge;IIII[J)I" } : Jvm.MethodName) method_18_code (7 : Nat) (Option.some Jvm.ClassFile.FieldType.int) [((0 : Nat), (14 : Nat), (17 : Nat), (21 : Nat))]) ∈ TB := tq7 178 rfl rfl
abbrev m_F_own : MD := (⟨"RowForge", "own", "(IIII)I"⟩, prog_1_method_17_code, 6, some (Jvm.ClassFile.FieldType.int), [])
theorem mo_F_own : MOK m_F_own := ⟨tq7 182 rfl rfl, rfl, kw_initialized_RowForge, by decide, by decide⟩
theorem mv_F_own : MV m_F_own 4 := ⟨mo_F_own, by decide +kernel, tq7 180 rfl rfl, tq7 181 rfl rfl⟩
abbrev m_Rows_cellOf : MD := (⟨"RowForge$Rows", "cellOf", "(III)I"⟩, prog_8_method_9_code, 5, some (Jvm.ClassFile.FieldType.int), [])
theorem mo_Rows_cellOf : MOK m_Rows_cellOf := ⟨tq7 186 rfl rfl, rfl, kw_initialized_RowForge_Rows, by decide, by decide⟩
theorem mv_Rows_cellOf : MV m_Rows_cellOf 3 := ⟨mo_Rows_cellOf, by decide +kernel, tq7 184 rfl rfl, tq7 185 rfl rfl⟩
abbrev m_Law_committed : MD := (⟨"RowForgeLaw", "committed", "(LRowForge;III[J)I"⟩, method_19_code, 6, some (Jvm.ClassFile.FieldType.int), [((0 : Nat), (12 : Nat), (15 : Nat), (21 : Nat))])
theorem cd_Law_committed : (Jvm.Cond.codeWith ({ cls := "RowForgeLaw", name := "committed", desc := "(LRowForge;III[J)I" } : Jvm.MethodName) method_19_code (6 : Nat) (Option.some Jvm.ClassFile.FieldType.int) [((0 : Nat), (12 : Nat), (15 : Nat), (21 : Nat))]) ∈ TB := tq7 190 rfl rfl
abbrev m_F_committed : MD := (⟨"RowForge", "committed", "(III)I"⟩, prog_1_method_18_code, 4, some (Jvm.ClassFile.FieldType.int), [])
theorem mo_F_committed : MOK m_F_committed := ⟨tq7 194 rfl rfl, rfl, kw_initialized_RowForge, by decide, by decide⟩
theorem mv_F_committed : MV m_F_committed 3 := ⟨mo_F_committed, by decide +kernel, tq7 192 rfl rfl, tq7 193 rfl rfl⟩
abbrev m_Law_committedByLog : MD := (⟨"RowForgeLaw", "committedByLog", "(LRowForge;III[J)I"⟩, method_20_code, 6, some (Jvm.ClassFile.FieldType.int), [((0 : Nat), (12 : Nat), (15 : Nat), (21 : Nat))])
theorem cd_Law_committedByLog : (Jvm.Cond.codeWith ({ cls := "RowForgeLaw", name := "committedByLog", desc := "(LRowForge;III[J)I" } : Jvm.MethodName) method_20_code (6 : Nat) (Option.some Jvm.ClassFile.FieldType.int) [((0 : Nat), (12 : Nat), (15 : Nat), (21 : Nat))]) ∈ TB := tq7 197 rfl rfl
abbrev m_F_committedByLog : MD := (⟨"RowForge", "committedByLog", "(III)I"⟩, prog_1_method_19_code, 4, some (Jvm.ClassFile.FieldType.int), [])
theorem mo_F_committedByLog : MOK m_F_committedByLog := ⟨tq7 201 rfl rfl, rfl, kw_initialized_RowForge, by decide, by decide⟩
theorem mv_F_committedByLog : MV m_F_committedByLog 3 := ⟨mo_F_committedByLog, by decide +kernel, tq7 199 rfl rfl, tq7 200 rfl rfl⟩
abbrev m_Log_lastCommittedCell : MD := (⟨"RowForge$Log", "lastCommittedCell", "(III)I"⟩, prog_4_method_14_code, 5, some (Jvm.ClassFile.FieldType.int), [])
theorem mo_Log_lastCommittedCell : MOK m_Log_lastCommittedCell := ⟨tq7 205 rfl rfl, rfl, kw_initialized_RowForge_Log, by decide, by decide⟩
theorem mv_Log_lastCommittedCell : MV m_Log_lastCommittedCell 3 := ⟨mo_Log_lastCommittedCell, by decide +kernel, tq7 203 rfl rfl, tq7 204 rfl rfl⟩
abbrev m_Law_rowsOf : MD := (⟨"RowForgeLaw", "rowsOf", "(LRowForge;I[J)I"⟩, method_21_code, 4, some (Jvm.ClassFile.FieldType.int), [((0 : Nat), (9 : Nat), (12 : Nat), (21 : Nat))])
theorem cd_Law_rowsOf : (Jvm.Cond.codeWith ({ cls := "RowForgeLaw", name := "rowsOf", desc := "(LRowForge;I[J)I" } : Jvm.MethodName) method_21_code (4 : Nat) (Option.some Jvm.ClassFile.FieldType.int) [((0 : Nat), (9 : Nat), (12 : Nat), (21 : Nat))]) ∈ TB := tq7 208 rfl rfl
abbrev m_F_rowsOf : MD := (⟨"RowForge", "rowsOf", "(I)I"⟩, prog_1_method_20_code, 2, some (Jvm.ClassFile.FieldType.int), [])
theorem mo_F_rowsOf : MOK m_F_rowsOf := ⟨tq7 212 rfl rfl, rfl, kw_initialized_RowForge, by decide, by decide⟩
theorem mv_F_rowsOf : MV m_F_rowsOf 1 := ⟨mo_F_rowsOf, by decide +kernel, tq7 210 rfl rfl, tq7 211 rfl rfl⟩
abbrev m_Law_scan : MD := (⟨"RowForgeLaw", "scan", "(LRowForge;I[J)I"⟩, method_22_code, 4, some (Jvm.ClassFile.FieldType.int), [((0 : Nat), (9 : Nat), (12 : Nat), (21 : Nat)), ((0 : Nat), (9 : Nat), (15 : Nat), (15 : Nat))])
theorem cd_Law_scan : (Jvm.Cond.codeWith ({ cls := "RowForgeLaw", name := "scan", desc := "(LRowForge;I[J)I" } : Jvm.MethodName) method_22_code (4 : Nat) (Option.some Jvm.ClassFile.FieldType.int) [((0 : Nat), (9 : Nat), (12 : Nat), (21 : Nat)), ((0 : Nat), (9 : Nat), (15 : Nat), (15 : Nat))]) ∈ TB := tq7 215 rfl rfl
abbrev m_F_scan : MD := (⟨"RowForge", "scan", "(I)I"⟩, prog_1_method_21_code, 2, some (Jvm.ClassFile.FieldType.int), [])
theorem mo_F_scan : MOK m_F_scan := ⟨tq7 219 rfl rfl, rfl, kw_initialized_RowForge, by decide, by decide⟩
theorem mv_F_scan : MV m_F_scan 1 := ⟨mo_F_scan, by decide +kernel, tq7 217 rfl rfl, tq7 218 rfl rfl⟩
abbrev m_Query_putScan : MD := (⟨"RowForge$Query", "putScan", "(II)V"⟩, prog_6_method_9_code, 3, none, [])
theorem mo_Query_putScan : MOK m_Query_putScan := ⟨tq7 223 rfl rfl, rfl, kw_initialized_RowForge_Query, by decide, by decide⟩
theorem mv_Query_putScan : MV m_Query_putScan 2 := ⟨mo_Query_putScan, by decide +kernel, tq7 221 rfl rfl, tq7 222 rfl rfl⟩
abbrev m_Query_put : MD := (⟨"RowForge$Query", "put", "(IIII)V"⟩, prog_6_method_7_code, 5, none, [])
theorem mo_Query_put : MOK m_Query_put := ⟨tq7 227 rfl rfl, rfl, kw_initialized_RowForge_Query, by decide, by decide⟩
theorem mv_Query_put : MV m_Query_put 4 := ⟨mo_Query_put, by decide +kernel, tq7 226 rfl rfl, tb 47 rfl rfl⟩
abbrev m_Query_setParameters : MD := (⟨"RowForge$Query", "setParameters", "(IIII)V"⟩, prog_6_method_8_code, 6, none, [])
theorem mo_Query_setParameters : MOK m_Query_setParameters := ⟨tq7 232 rfl rfl, rfl, kw_initialized_RowForge_Query, by decide, by decide⟩
theorem mv_Query_setParameters : MV m_Query_setParameters 4 := ⟨mo_Query_setParameters, by decide +kernel, tq7 231 rfl rfl, tb 48 rfl rfl⟩
abbrev m_Law_filter : MD := (⟨"RowForgeLaw", "filter", "(LRowForge;IIIZ[J)I"⟩, method_23_code, 7, some (Jvm.ClassFile.FieldType.int), [((0 : Nat), (14 : Nat), (17 : Nat), (15 : Nat)), ((0 : Nat), (14 : Nat), (21 : Nat), (21 : Nat)), ((0 : Nat), (14 : Nat), (25 : Nat), (13 : Nat))])
theorem cd_Law_filter : (Jvm.Cond.codeWith ({ cls := "RowForgeLaw", name := "filter", desc := "(LRowForge;IIIZ[J)I" } : Jvm.MethodName) method_23_code (7 : Nat) (Option.some Jvm.ClassFile.FieldType.int) [((0 : Nat), (14 : Nat), (17 : Nat), (15 : Nat)), ((0 : Nat), (14 : Nat), (21 : Nat), (21 : Nat)), ((0 : Nat), (14 : Nat), (25 : Nat), (13 : Nat))]) ∈ TB := tq7 235 rfl rfl
abbrev m_F_filter : MD := (⟨"RowForge", "filter", "(IIIZ)I"⟩, prog_1_method_22_code, 5, some (Jvm.ClassFile.FieldType.int), [])
theorem mo_F_filter : MOK m_F_filter := ⟨tq7 239 rfl rfl, rfl, kw_initialized_RowForge, by decide, by decide⟩
theorem mv_F_filter : MV m_F_filter 4 := ⟨mo_F_filter, by decide +kernel, tq7 237 rfl rfl, tq7 238 rfl rfl⟩
abbrev m_Query_takesOperator : MD := (⟨"RowForge$Query", "takesOperator", "(I)Z"⟩, prog_6_method_3_code, 2, some (Jvm.ClassFile.FieldType.boolean), [])
theorem mo_Query_takesOperator : MOK m_Query_takesOperator := ⟨tq8 3 rfl rfl, rfl, kw_initialized_RowForge_Query, by decide, by decide⟩
theorem mv_Query_takesOperator : MV m_Query_takesOperator 1 := ⟨mo_Query_takesOperator, by decide +kernel, tq8 1 rfl rfl, tq8 2 rfl rfl⟩
abbrev m_Query_lastWidth : MD := (⟨"RowForge$Query", "lastWidth", "()I"⟩, prog_6_method_4_code, 1, some (Jvm.ClassFile.FieldType.int), [])
theorem mo_Query_lastWidth : MOK m_Query_lastWidth := ⟨tq8 7 rfl rfl, rfl, kw_initialized_RowForge_Query, by decide, by decide⟩
theorem mv_Query_lastWidth : MV m_Query_lastWidth 0 := ⟨mo_Query_lastWidth, by decide +kernel, tq8 5 rfl rfl, tq8 6 rfl rfl⟩
abbrev m_Query_putOnLast : MD := (⟨"RowForge$Query", "putOnLast", "(IIIIII)V"⟩, prog_6_method_10_code, 7, none, [])
theorem mo_Query_putOnLast : MOK m_Query_putOnLast := ⟨tq8 11 rfl rfl, rfl, kw_initialized_RowForge_Query, by decide, by decide⟩
theorem mv_Query_putOnLast : MV m_Query_putOnLast 6 := ⟨mo_Query_putOnLast, by decide +kernel, tq8 9 rfl rfl, tq8 10 rfl rfl⟩
abbrev m_Law_filterColumns : MD := (⟨"RowForgeLaw", "filterColumns", "(LRowForge;IIIZ[J)I"⟩, method_24_code, 7, some (Jvm.ClassFile.FieldType.int), [((0 : Nat), (14 : Nat), (17 : Nat), (15 : Nat)), ((0 : Nat), (14 : Nat), (21 : Nat), (21 : Nat)), ((0 : Nat), (14 : Nat), (25 : Nat), (13 : Nat))])
theorem cd_Law_filterColumns : (Jvm.Cond.codeWith ({ cls := "RowForgeLaw", name := "filterColumns", desc := "(LRowForge;IIIZ[J)I" } : Jvm.MethodName) method_24_code (7 : Nat) (Option.some Jvm.ClassFile.FieldType.int) [((0 : Nat), (14 : Nat), (17 : Nat), (15 : Nat)), ((0 : Nat), (14 : Nat), (21 : Nat), (21 : Nat)), ((0 : Nat), (14 : Nat), (25 : Nat), (13 : Nat))]) ∈ TB := tq8 14 rfl rfl
abbrev m_F_filterColumns : MD := (⟨"RowForge", "filterColumns", "(IIIZ)I"⟩, prog_1_method_23_code, 6, some (Jvm.ClassFile.FieldType.int), [])
theorem mo_F_filterColumns : MOK m_F_filterColumns := ⟨tq8 18 rfl rfl, rfl, kw_initialized_RowForge, by decide, by decide⟩
theorem mv_F_filterColumns : MV m_F_filterColumns 4 := ⟨mo_F_filterColumns, by decide +kernel, tq8 16 rfl rfl, tq8 17 rfl rfl⟩
abbrev m_Law_ratio : MD := (⟨"RowForgeLaw", "ratio", "(LRowForge;III[J)I"⟩, method_25_code, 6, some (Jvm.ClassFile.FieldType.int), [((0 : Nat), (12 : Nat), (15 : Nat), (15 : Nat)), ((0 : Nat), (12 : Nat), (19 : Nat), (21 : Nat)), ((0 : Nat), (12 : Nat), (23 : Nat), (13 : Nat))])
theorem cd_Law_ratio : (Jvm.Cond.codeWith ({ cls := "RowForgeLaw", name := "ratio", desc := "(LRowForge;III[J)I" } : Jvm.MethodName) method_25_code (6 : Nat) (Option.some Jvm.ClassFile.FieldType.int) [((0 : Nat), (12 : Nat), (15 : Nat), (15 : Nat)), ((0 : Nat), (12 : Nat), (19 : Nat), (21 : Nat)), ((0 : Nat), (12 : Nat), (23 : Nat), (13 : Nat))]) ∈ TB := tq8 21 rfl rfl
abbrev m_F_ratio : MD := (⟨"RowForge", "ratio", "(III)I"⟩, prog_1_method_24_code, 5, some (Jvm.ClassFile.FieldType.int), [])
theorem mo_F_ratio : MOK m_F_ratio := ⟨tq8 25 rfl rfl, rfl, kw_initialized_RowForge, by decide, by decide⟩
theorem mv_F_ratio : MV m_F_ratio 3 := ⟨mo_F_ratio, by decide +kernel, tq8 23 rfl rfl, tq8 24 rfl rfl⟩
abbrev m_Law_join : MD := (⟨"RowForgeLaw", "join", "(LRowForge;III[J)I"⟩, method_26_code, 6, some (Jvm.ClassFile.FieldType.int), [((0 : Nat), (12 : Nat), (15 : Nat), (15 : Nat)), ((0 : Nat), (12 : Nat), (19 : Nat), (21 : Nat)), ((0 : Nat), (12 : Nat), (23 : Nat), (13 : Nat))])
theorem cd_Law_join : (Jvm.Cond.codeWith ({ cls := "RowForgeLaw", name := "join", desc := "(LRowForge;III[J)I" } : Jvm.MethodName) method_26_code (6 : Nat) (Option.some Jvm.ClassFile.FieldType.int) [((0 : Nat), (12 : Nat), (15 : Nat), (15 : Nat)), ((0 : Nat), (12 : Nat), (19 : Nat), (21 : Nat)), ((0 : Nat), (12 : Nat), (23 : Nat), (13 : Nat))]) ∈ TB := tq8 28 rfl rfl
abbrev m_F_join : MD := (⟨"RowForge", "join", "(III)I"⟩, prog_1_method_25_code, 7, some (Jvm.ClassFile.FieldType.int), [])
theorem mo_F_join : MOK m_F_join := ⟨tq8 32 rfl rfl, rfl, kw_initialized_RowForge, by decide, by decide⟩
theorem mv_F_join : MV m_F_join 3 := ⟨mo_F_join, by decide +kernel, tq8 30 rfl rfl, tq8 31 rfl rfl⟩
abbrev m_Query_earlierWidth : MD := (⟨"RowForge$Query", "earlierWidth", "()I"⟩, prog_6_method_5_code, 1, some (Jvm.ClassFile.FieldType.int), [])
theorem mo_Query_earlierWidth : MOK m_Query_earlierWidth := ⟨tq8 36 rfl rfl, rfl, kw_initialized_RowForge_Query, by decide, by decide⟩
theorem mv_Query_earlierWidth : MV m_Query_earlierWidth 0 := ⟨mo_Query_earlierWidth, by decide +kernel, tq8 34 rfl rfl, tq8 35 rfl rfl⟩
abbrev m_Query_putOnTwo : MD := (⟨"RowForge$Query", "putOnTwo", "(IIIII)V"⟩, prog_6_method_11_code, 6, none, [])
theorem mo_Query_putOnTwo : MOK m_Query_putOnTwo := ⟨tq8 40 rfl rfl, rfl, kw_initialized_RowForge_Query, by decide, by decide⟩
theorem mv_Query_putOnTwo : MV m_Query_putOnTwo 5 := ⟨mo_Query_putOnTwo, by decide +kernel, tq8 38 rfl rfl, tq8 39 rfl rfl⟩
abbrev m_Law_keep : MD := (⟨"RowForgeLaw", "keep", "(LRowForge;I[J)I"⟩, method_27_code, 4, some (Jvm.ClassFile.FieldType.int), [((0 : Nat), (9 : Nat), (12 : Nat), (15 : Nat)), ((0 : Nat), (9 : Nat), (15 : Nat), (13 : Nat))])
theorem cd_Law_keep : (Jvm.Cond.codeWith ({ cls := "RowForgeLaw", name := "keep", desc := "(LRowForge;I[J)I" } : Jvm.MethodName) method_27_code (4 : Nat) (Option.some Jvm.ClassFile.FieldType.int) [((0 : Nat), (9 : Nat), (12 : Nat), (15 : Nat)), ((0 : Nat), (9 : Nat), (15 : Nat), (13 : Nat))]) ∈ TB := tq8 43 rfl rfl
abbrev m_F_keep : MD := (⟨"RowForge", "keep", "(I)I"⟩, prog_1_method_26_code, 2, some (Jvm.ClassFile.FieldType.int), [])
theorem mo_F_keep : MOK m_F_keep := ⟨tq8 47 rfl rfl, rfl, kw_initialized_RowForge, by decide, by decide⟩
theorem mv_F_keep : MV m_F_keep 1 := ⟨mo_F_keep, by decide +kernel, tq8 45 rfl rfl, tq8 46 rfl rfl⟩
abbrev m_java_lang_Integer_bitCount : MD := (⟨"java/lang/Integer", "bitCount", "(I)I"⟩, prog_26_method_49_code, 1, some (Jvm.ClassFile.FieldType.int), [])
theorem mo_java_lang_Integer_bitCount : MOK m_java_lang_Integer_bitCount := ⟨tq8 50 rfl rfl, rfl, kw_initialized_java_lang_Integer, by decide, by decide⟩
theorem ms_java_lang_Integer_bitCount : MS m_java_lang_Integer_bitCount 1 := ⟨mo_java_lang_Integer_bitCount, by decide +kernel, tq8 49 rfl rfl⟩
abbrev m_Law_group : MD := (⟨"RowForgeLaw", "group", "(LRowForge;III[J)I"⟩, method_28_code, 6, some (Jvm.ClassFile.FieldType.int), [((0 : Nat), (12 : Nat), (15 : Nat), (15 : Nat)), ((0 : Nat), (12 : Nat), (19 : Nat), (21 : Nat)), ((0 : Nat), (12 : Nat), (23 : Nat), (13 : Nat))])
theorem cd_Law_group : (Jvm.Cond.codeWith ({ cls := "RowForgeLaw", name := "group", desc := "(LRowForge;III[J)I" } : Jvm.MethodName) method_28_code (6 : Nat) (Option.some Jvm.ClassFile.FieldType.int) [((0 : Nat), (12 : Nat), (15 : Nat), (15 : Nat)), ((0 : Nat), (12 : Nat), (19 : Nat), (21 : Nat)), ((0 : Nat), (12 : Nat), (23 : Nat), (13 : Nat))]) ∈ TB := tq8 56 rfl rfl
abbrev m_F_group : MD := (⟨"RowForge", "group", "(III)I"⟩, prog_1_method_27_code, 5, some (Jvm.ClassFile.FieldType.int), [])
theorem mo_F_group : MOK m_F_group := ⟨tq8 60 rfl rfl, rfl, kw_initialized_RowForge, by decide, by decide⟩
theorem mv_F_group : MV m_F_group 3 := ⟨mo_F_group, by decide +kernel, tq8 58 rfl rfl, tq8 59 rfl rfl⟩
abbrev m_Law_combine : MD := (⟨"RowForgeLaw", "combine", "(LRowForge;I[J)I"⟩, method_29_code, 4, some (Jvm.ClassFile.FieldType.int), [((0 : Nat), (9 : Nat), (12 : Nat), (15 : Nat)), ((0 : Nat), (9 : Nat), (15 : Nat), (13 : Nat))])
theorem cd_Law_combine : (Jvm.Cond.codeWith ({ cls := "RowForgeLaw", name := "combine", desc := "(LRowForge;I[J)I" } : Jvm.MethodName) method_29_code (4 : Nat) (Option.some Jvm.ClassFile.FieldType.int) [((0 : Nat), (9 : Nat), (12 : Nat), (15 : Nat)), ((0 : Nat), (9 : Nat), (15 : Nat), (13 : Nat))]) ∈ TB := tq8 63 rfl rfl
abbrev m_F_combine : MD := (⟨"RowForge", "combine", "(I)I"⟩, prog_1_method_28_code, 2, some (Jvm.ClassFile.FieldType.int), [])
theorem mo_F_combine : MOK m_F_combine := ⟨tq8 67 rfl rfl, rfl, kw_initialized_RowForge, by decide, by decide⟩
theorem mv_F_combine : MV m_F_combine 1 := ⟨mo_F_combine, by decide +kernel, tq8 65 rfl rfl, tq8 66 rfl rfl⟩
abbrev m_Law_query : MD := (⟨"RowForgeLaw", "query", "(LRowForge;[J)I"⟩, method_30_code, 3, some (Jvm.ClassFile.FieldType.int), [((0 : Nat), (8 : Nat), (11 : Nat), (15 : Nat))])
theorem cd_Law_query : (Jvm.Cond.codeWith ({ cls := "RowForgeLaw", name := "query", desc := "(LRowForge;[J)I" } : Jvm.MethodName) method_30_code (3 : Nat) (Option.some Jvm.ClassFile.FieldType.int) [((0 : Nat), (8 : Nat), (11 : Nat), (15 : Nat))]) ∈ TB := tq8 70 rfl rfl
abbrev m_F_query : MD := (⟨"RowForge", "query", "()I"⟩, prog_1_method_30_code, 1, some (Jvm.ClassFile.FieldType.int), [])
theorem mo_F_query : MOK m_F_query := ⟨tq8 74 rfl rfl, rfl, kw_initialized_RowForge, by decide, by decide⟩
theorem mv_F_query : MV m_F_query 0 := ⟨mo_F_query, by decide +kernel, tq8 72 rfl rfl, tq8 73 rfl rfl⟩
abbrev m_Law_run : MD := (⟨"RowForgeLaw", "run", "(LRowForge;II[J)I"⟩, method_31_code, 5, some (Jvm.ClassFile.FieldType.int), [((0 : Nat), (10 : Nat), (13 : Nat), (21 : Nat)), ((0 : Nat), (10 : Nat), (17 : Nat), (15 : Nat)), ((0 : Nat), (10 : Nat), (21 : Nat), (111 : Nat))])
theorem cd_Law_run : (Jvm.Cond.codeWith ({ cls := "RowForgeLaw", name := "run", desc := "(LRowForge;II[J)I" } : Jvm.MethodName) method_31_code (5 : Nat) (Option.some Jvm.ClassFile.FieldType.int) [((0 : Nat), (10 : Nat), (13 : Nat), (21 : Nat)), ((0 : Nat), (10 : Nat), (17 : Nat), (15 : Nat)), ((0 : Nat), (10 : Nat), (21 : Nat), (111 : Nat))]) ∈ TB := tq8 78 rfl rfl
abbrev m_F_run : MD := (⟨"RowForge", "run", "(II)I"⟩, prog_1_method_31_code, 5, some (Jvm.ClassFile.FieldType.int), [])
theorem mo_F_run : MOK m_F_run := ⟨tq8 96 rfl rfl, rfl, kw_initialized_RowForge, by decide, by decide⟩
theorem mv_F_run : MV m_F_run 2 := ⟨mo_F_run, by decide +kernel, tq8 94 rfl rfl, tq8 95 rfl rfl⟩
abbrev m_F_hasQuery : MD := (⟨"RowForge", "hasQuery", "(I)Z"⟩, prog_1_method_56_code, 2, some (Jvm.ClassFile.FieldType.boolean), [])
theorem mo_F_hasQuery : MOK m_F_hasQuery := ⟨tq8 100 rfl rfl, rfl, kw_initialized_RowForge, by decide, by decide⟩
theorem mv_F_hasQuery : MV m_F_hasQuery 1 := ⟨mo_F_hasQuery, by decide +kernel, tq8 99 rfl rfl, tb 49 rfl rfl⟩
abbrev m_F_resultFor : MD := (⟨"RowForge", "resultFor", "(LRowForge$Transaction;LRowForge$Query;)LRowForge$Relation;"⟩, prog_1_method_60_code, 4, some ((Jvm.ClassFile.FieldType.object "RowForge$Relation")), [])
theorem mo_F_resultFor : MOK m_F_resultFor := ⟨tq8 104 rfl rfl, rfl, kw_initialized_RowForge, by decide, by decide⟩
theorem mv_F_resultFor : MV m_F_resultFor 2 := ⟨mo_F_resultFor, by decide +kernel, tq8 103 rfl rfl, tb 50 rfl rfl⟩
abbrev m_Query_noteReads : MD := (⟨"RowForge$Query", "noteReads", "(LRowForge$Transaction;)V"⟩, prog_6_method_14_code, 3, none, [])
theorem mo_Query_noteReads : MOK m_Query_noteReads := ⟨tq8 113 rfl rfl, rfl, kw_initialized_RowForge_Query, by decide, by decide⟩
theorem mv_Query_noteReads : MV m_Query_noteReads 1 := ⟨mo_Query_noteReads, by decide +kernel, tq8 111 rfl rfl, tq8 112 rfl rfl⟩
abbrev m_Query_noteReadsOf : MD := (⟨"RowForge$Query", "noteReadsOf", "(ILRowForge$Transaction;)V"⟩, prog_6_method_15_code, 5, none, [])
theorem mo_Query_noteReadsOf : MOK m_Query_noteReadsOf := ⟨tq8 117 rfl rfl, rfl, kw_initialized_RowForge_Query, by decide, by decide⟩
theorem mv_Query_noteReadsOf : MV m_Query_noteReadsOf 2 := ⟨mo_Query_noteReadsOf, by decide +kernel, tq8 116 rfl rfl, tb 51 rfl rfl⟩
abbrev m_Query_isFilter : MD := (⟨"RowForge$Query", "isFilter", "(I)Z"⟩, prog_6_method_12_code, 2, some (Jvm.ClassFile.FieldType.boolean), [])
theorem mo_Query_isFilter : MOK m_Query_isFilter := ⟨tq8 122 rfl rfl, rfl, kw_initialized_RowForge_Query, by decide, by decide⟩
theorem mv_Query_isFilter : MV m_Query_isFilter 1 := ⟨mo_Query_isFilter, by decide +kernel, tq8 120 rfl rfl, tq8 121 rfl rfl⟩
abbrev m_Query_asksForKey : MD := (⟨"RowForge$Query", "asksForKey", "(I)Z"⟩, prog_6_method_16_code, 2, some (Jvm.ClassFile.FieldType.boolean), [])
theorem mo_Query_asksForKey : MOK m_Query_asksForKey := ⟨tq8 126 rfl rfl, rfl, kw_initialized_RowForge_Query, by decide, by decide⟩
theorem mv_Query_asksForKey : MV m_Query_asksForKey 1 := ⟨mo_Query_asksForKey, by decide +kernel, tq8 125 rfl rfl, tb 52 rfl rfl⟩
abbrev m_Law_at : MD := (⟨"RowForgeLaw", "at", "(LRowForge;II[J)I"⟩, method_32_code, 5, some (Jvm.ClassFile.FieldType.int), [((0 : Nat), (10 : Nat), (13 : Nat), (21 : Nat))])
theorem cd_Law_at : (Jvm.Cond.codeWith ({ cls := "RowForgeLaw", name := "at", desc := "(LRowForge;II[J)I" } : Jvm.MethodName) method_32_code (5 : Nat) (Option.some Jvm.ClassFile.FieldType.int) [((0 : Nat), (10 : Nat), (13 : Nat), (21 : Nat))]) ∈ TB := tq8 131 rfl rfl
abbrev m_F_at : MD := (⟨"RowForge", "at", "(II)I"⟩, prog_1_method_32_code, 3, some (Jvm.ClassFile.FieldType.int), [])
theorem mo_F_at : MOK m_F_at := ⟨tq8 135 rfl rfl, rfl, kw_initialized_RowForge, by decide, by decide⟩
theorem mv_F_at : MV m_F_at 2 := ⟨mo_F_at, by decide +kernel, tq8 133 rfl rfl, tq8 134 rfl rfl⟩
abbrev m_F_cellAt : MD := (⟨"RowForge", "cellAt", "(LRowForge$Relation;II)I"⟩, prog_1_method_55_code, 3, some (Jvm.ClassFile.FieldType.int), [])
theorem mo_F_cellAt : MOK m_F_cellAt := ⟨tq8 138 rfl rfl, rfl, kw_initialized_RowForge, by decide, by decide⟩
theorem ms_F_cellAt : MS m_F_cellAt 3 := ⟨mo_F_cellAt, by decide +kernel, tq8 137 rfl rfl⟩
abbrev m_Relation_hasCell : MD := (⟨"RowForge$Relation", "hasCell", "(II)Z"⟩, prog_7_method_4_code, 3, some (Jvm.ClassFile.FieldType.boolean), [])
theorem mo_Relation_hasCell : MOK m_Relation_hasCell := ⟨tq8 142 rfl rfl, rfl, kw_initialized_RowForge_Relation, by decide, by decide⟩
theorem mv_Relation_hasCell : MV m_Relation_hasCell 2 := ⟨mo_Relation_hasCell, by decide +kernel, tq8 140 rfl rfl, tq8 141 rfl rfl⟩
abbrev m_Law_atByLoops : MD := (⟨"RowForgeLaw", "atByLoops", "(LRowForge;IIII[J)I"⟩, method_33_code, 7, some (Jvm.ClassFile.FieldType.int), [((0 : Nat), (14 : Nat), (17 : Nat), (21 : Nat)), ((0 : Nat), (14 : Nat), (21 : Nat), (15 : Nat)), ((0 : Nat), (14 : Nat), (25 : Nat), (111 : Nat))])
theorem cd_Law_atByLoops : (Jvm.Cond.codeWith ({ cls := "RowForgeLaw", name := "atByLoops", desc := "(LRowForge;IIII[J)I" } : Jvm.MethodName) method_33_code (7 : Nat) (Option.some Jvm.ClassFile.FieldType.int) [((0 : Nat), (14 : Nat), (17 : Nat), (21 : Nat)), ((0 : Nat), (14 : Nat), (21 : Nat), (15 : Nat)), ((0 : Nat), (14 : Nat), (25 : Nat), (111 : Nat))]) ∈ TB := tq8 146 rfl rfl
abbrev m_F_atByLoops : MD := (⟨"RowForge", "atByLoops", "(IIII)I"⟩, prog_1_method_33_code, 6, some (Jvm.ClassFile.FieldType.int), [])
theorem mo_F_atByLoops : MOK m_F_atByLoops := ⟨tq8 150 rfl rfl, rfl, kw_initialized_RowForge, by decide, by decide⟩
theorem mv_F_atByLoops : MV m_F_atByLoops 4 := ⟨mo_F_atByLoops, by decide +kernel, tq8 148 rfl rfl, tq8 149 rfl rfl⟩
abbrev m_Law_prepare : MD := (⟨"RowForgeLaw", "prepare", "(LRowForge;I[J)I"⟩, method_34_code, 4, some (Jvm.ClassFile.FieldType.int), [((0 : Nat), (9 : Nat), (12 : Nat), (21 : Nat))])
theorem cd_Law_prepare : (Jvm.Cond.codeWith ({ cls := "RowForgeLaw", name := "prepare", desc := "(LRowForge;I[J)I" } : Jvm.MethodName) method_34_code (4 : Nat) (Option.some Jvm.ClassFile.FieldType.int) [((0 : Nat), (9 : Nat), (12 : Nat), (21 : Nat))]) ∈ TB := tq8 153 rfl rfl
abbrev m_F_prepare : MD := (⟨"RowForge", "prepare", "(I)I"⟩, prog_1_method_35_code, 3, some (Jvm.ClassFile.FieldType.int), [])
theorem mo_F_prepare : MOK m_F_prepare := ⟨tq8 157 rfl rfl, rfl, kw_initialized_RowForge, by decide, by decide⟩
theorem mv_F_prepare : MV m_F_prepare 1 := ⟨mo_F_prepare, by decide +kernel, tq8 155 rfl rfl, tq8 156 rfl rfl⟩
abbrev m_Planner_plan : MD := (⟨"RowForge$Planner", "plan", "(LRowForge$Query;)V"⟩, prog_5_method_4_code, 3, none, [])
theorem mo_Planner_plan : MOK m_Planner_plan := ⟨tq8 161 rfl rfl, rfl, kw_initialized_RowForge_Planner, by decide, by decide⟩
theorem mv_Planner_plan : MV m_Planner_plan 1 := ⟨mo_Planner_plan, by decide +kernel, tq8 159 rfl rfl, tq8 160 rfl rfl⟩
abbrev m_Planner_topOfBlock : MD := (⟨"RowForge$Planner", "topOfBlock", "(LRowForge$Query;)I"⟩, prog_5_method_5_code, 3, some (Jvm.ClassFile.FieldType.int), [])
theorem mo_Planner_topOfBlock : MOK m_Planner_topOfBlock := ⟨tq8 164 rfl rfl, rfl, kw_initialized_RowForge_Planner, by decide, by decide⟩
theorem ms_Planner_topOfBlock : MS m_Planner_topOfBlock 1 := ⟨mo_Planner_topOfBlock, by decide +kernel, tq8 163 rfl rfl⟩
abbrev m_Planner_isPassed : MD := (⟨"RowForge$Planner", "isPassed", "(LRowForge$Query;I)Z"⟩, prog_5_method_6_code, 2, some (Jvm.ClassFile.FieldType.boolean), [])
theorem mo_Planner_isPassed : MOK m_Planner_isPassed := ⟨tq8 167 rfl rfl, rfl, kw_initialized_RowForge_Planner, by decide, by decide⟩
theorem ms_Planner_isPassed : MS m_Planner_isPassed 2 := ⟨mo_Planner_isPassed, by decide +kernel, tq8 166 rfl rfl⟩
abbrev m_Query_isInnerJoin : MD := (⟨"RowForge$Query", "isInnerJoin", "(I)Z"⟩, prog_6_method_13_code, 2, some (Jvm.ClassFile.FieldType.boolean), [])
theorem mo_Query_isInnerJoin : MOK m_Query_isInnerJoin := ⟨tq8 172 rfl rfl, rfl, kw_initialized_RowForge_Query, by decide, by decide⟩
theorem mv_Query_isInnerJoin : MV m_Query_isInnerJoin 1 := ⟨mo_Query_isInnerJoin, by decide +kernel, tq8 170 rfl rfl, tq8 171 rfl rfl⟩
abbrev m_Planner_reach : MD := (⟨"RowForge$Planner", "reach", "(LRowForge$Query;I)V"⟩, prog_5_method_7_code, 4, none, [])
theorem mo_Planner_reach : MOK m_Planner_reach := ⟨tq8 176 rfl rfl, rfl, kw_initialized_RowForge_Planner, by decide, by decide⟩
theorem mv_Planner_reach : MV m_Planner_reach 2 := ⟨mo_Planner_reach, by decide +kernel, tq8 175 rfl rfl, tb 53 rfl rfl⟩
abbrev m_Planner_isInner : MD := (⟨"RowForge$Planner", "isInner", "(LRowForge$Query;I)Z"⟩, prog_5_method_8_code, 2, some (Jvm.ClassFile.FieldType.boolean), [])
theorem mo_Planner_isInner : MOK m_Planner_isInner := ⟨tq8 179 rfl rfl, rfl, kw_initialized_RowForge_Planner, by decide, by decide⟩
theorem ms_Planner_isInner : MS m_Planner_isInner 2 := ⟨mo_Planner_isInner, by decide +kernel, tq8 178 rfl rfl⟩
abbrev m_Planner_reachOperands : MD := (⟨"RowForge$Planner", "reachOperands", "(LRowForge$Query;I)V"⟩, prog_5_method_9_code, 5, none, [])
theorem mo_Planner_reachOperands : MOK m_Planner_reachOperands := ⟨tq8 183 rfl rfl, rfl, kw_initialized_RowForge_Planner, by decide, by decide⟩
theorem mv_Planner_reachOperands : MV m_Planner_reachOperands 2 := ⟨mo_Planner_reachOperands, by decide +kernel, tq8 182 rfl rfl, tb 54 rfl rfl⟩
abbrev m_Planner_describeLeaves : MD := (⟨"RowForge$Planner", "describeLeaves", "(LRowForge$Query;)V"⟩, prog_5_method_10_code, 7, none, [])
theorem mo_Planner_describeLeaves : MOK m_Planner_describeLeaves := ⟨tq8 187 rfl rfl, rfl, kw_initialized_RowForge_Planner, by decide, by decide⟩
theorem mv_Planner_describeLeaves : MV m_Planner_describeLeaves 1 := ⟨mo_Planner_describeLeaves, by decide +kernel, tq8 186 rfl rfl, tb 55 rfl rfl⟩
abbrev m_Planner_applyFilters : MD := (⟨"RowForge$Planner", "applyFilters", "(LRowForge$Query;I)V"⟩, prog_5_method_11_code, 7, none, [])
theorem mo_Planner_applyFilters : MOK m_Planner_applyFilters := ⟨tq8 192 rfl rfl, rfl, kw_initialized_RowForge_Planner, by decide, by decide⟩
theorem mv_Planner_applyFilters : MV m_Planner_applyFilters 2 := ⟨mo_Planner_applyFilters, by decide +kernel, tq8 191 rfl rfl, tb 56 rfl rfl⟩
abbrev m_Planner_divided : MD := (⟨"RowForge$Planner", "divided", "(II)I"⟩, prog_5_method_12_code, 2, some (Jvm.ClassFile.FieldType.int), [])
theorem mo_Planner_divided : MOK m_Planner_divided := ⟨tq8 195 rfl rfl, rfl, kw_initialized_RowForge_Planner, by decide, by decide⟩
theorem ms_Planner_divided : MS m_Planner_divided 2 := ⟨mo_Planner_divided, by decide +kernel, tq8 194 rfl rfl⟩
abbrev m_Planner_gatherJoins : MD := (⟨"RowForge$Planner", "gatherJoins", "(LRowForge$Query;I)V"⟩, prog_5_method_13_code, 4, none, [])
theorem mo_Planner_gatherJoins : MOK m_Planner_gatherJoins := ⟨tq8 200 rfl rfl, rfl, kw_initialized_RowForge_Planner, by decide, by decide⟩
theorem mv_Planner_gatherJoins : MV m_Planner_gatherJoins 2 := ⟨mo_Planner_gatherJoins, by decide +kernel, tq8 199 rfl rfl, tb 57 rfl rfl⟩
abbrev m_Planner_chooseOrder : MD := (⟨"RowForge$Planner", "chooseOrder", "(LRowForge$Query;)V"⟩, prog_5_method_14_code, 5, none, [])
theorem mo_Planner_chooseOrder : MOK m_Planner_chooseOrder := ⟨tq8 204 rfl rfl, rfl, kw_initialized_RowForge_Planner, by decide, by decide⟩
theorem mv_Planner_chooseOrder : MV m_Planner_chooseOrder 1 := ⟨mo_Planner_chooseOrder, by decide +kernel, tq8 203 rfl rfl, tb 58 rfl rfl⟩
abbrev m_Planner_spellsOrder : MD := (⟨"RowForge$Planner", "spellsOrder", "(I)Z"⟩, prog_5_method_15_code, 5, some (Jvm.ClassFile.FieldType.boolean), [])
theorem mo_Planner_spellsOrder : MOK m_Planner_spellsOrder := ⟨tq8 208 rfl rfl, rfl, kw_initialized_RowForge_Planner, by decide, by decide⟩
theorem mv_Planner_spellsOrder : MV m_Planner_spellsOrder 1 := ⟨mo_Planner_spellsOrder, by decide +kernel, tq8 207 rfl rfl, tb 59 rfl rfl⟩
abbrev m_Planner_costOfTried : MD := (⟨"RowForge$Planner", "costOfTried", "()I"⟩, prog_5_method_16_code, 7, some (Jvm.ClassFile.FieldType.int), [])
theorem mo_Planner_costOfTried : MOK m_Planner_costOfTried := ⟨tq8 213 rfl rfl, rfl, kw_initialized_RowForge_Planner, by decide, by decide⟩
theorem mv_Planner_costOfTried : MV m_Planner_costOfTried 0 := ⟨mo_Planner_costOfTried, by decide +kernel, tq8 212 rfl rfl, tb 60 rfl rfl⟩
abbrev m_Planner_connects : MD := (⟨"RowForge$Planner", "connects", "(III)Z"⟩, prog_5_method_17_code, 6, some (Jvm.ClassFile.FieldType.boolean), [])
theorem mo_Planner_connects : MOK m_Planner_connects := ⟨tq8 217 rfl rfl, rfl, kw_initialized_RowForge_Planner, by decide, by decide⟩
theorem mv_Planner_connects : MV m_Planner_connects 3 := ⟨mo_Planner_connects, by decide +kernel, tq8 216 rfl rfl, tb 61 rfl rfl⟩
abbrev m_Law_planAt : MD := (⟨"RowForgeLaw", "planAt", "(LRowForge;II[J)I"⟩, method_35_code, 5, some (Jvm.ClassFile.FieldType.int), [((0 : Nat), (10 : Nat), (13 : Nat), (21 : Nat)), ((0 : Nat), (10 : Nat), (17 : Nat), (15 : Nat))])
theorem cd_Law_planAt : (Jvm.Cond.codeWith ({ cls := "RowForgeLaw", name := "planAt", desc := "(LRowForge;II[J)I" } : Jvm.MethodName) method_35_code (5 : Nat) (Option.some Jvm.ClassFile.FieldType.int) [((0 : Nat), (10 : Nat), (13 : Nat), (21 : Nat)), ((0 : Nat), (10 : Nat), (17 : Nat), (15 : Nat))]) ∈ TB := tq8 221 rfl rfl
abbrev m_F_planAt : MD := (⟨"RowForge", "planAt", "(II)I"⟩, prog_1_method_36_code, 4, some (Jvm.ClassFile.FieldType.int), [])
theorem mo_F_planAt : MOK m_F_planAt := ⟨tq8 225 rfl rfl, rfl, kw_initialized_RowForge, by decide, by decide⟩
theorem mv_F_planAt : MV m_F_planAt 2 := ⟨mo_F_planAt, by decide +kernel, tq8 223 rfl rfl, tq8 224 rfl rfl⟩
abbrev m_Law_view : MD := (⟨"RowForgeLaw", "view", "(LRowForge;I[J)I"⟩, method_36_code, 4, some (Jvm.ClassFile.FieldType.int), [((0 : Nat), (9 : Nat), (12 : Nat), (21 : Nat)), ((0 : Nat), (9 : Nat), (15 : Nat), (15 : Nat))])
theorem cd_Law_view : (Jvm.Cond.codeWith ({ cls := "RowForgeLaw", name := "view", desc := "(LRowForge;I[J)I" } : Jvm.MethodName) method_36_code (4 : Nat) (Option.some Jvm.ClassFile.FieldType.int) [((0 : Nat), (9 : Nat), (12 : Nat), (21 : Nat)), ((0 : Nat), (9 : Nat), (15 : Nat), (15 : Nat))]) ∈ TB := tq8 228 rfl rfl
abbrev m_F_view : MD := (⟨"RowForge", "view", "(I)I"⟩, prog_1_method_38_code, 4, some (Jvm.ClassFile.FieldType.int), [])
theorem mo_F_view : MOK m_F_view := ⟨tq8 232 rfl rfl, rfl, kw_initialized_RowForge, by decide, by decide⟩
theorem mv_F_view : MV m_F_view 1 := ⟨mo_F_view, by decide +kernel, tq8 230 rfl rfl, tq8 231 rfl rfl⟩
abbrev m_Query_isViewable : MD := (⟨"RowForge$Query", "isViewable", "()Z"⟩, prog_6_method_17_code, 3, some (Jvm.ClassFile.FieldType.boolean), [])
theorem mo_Query_isViewable : MOK m_Query_isViewable := ⟨tq8 236 rfl rfl, rfl, kw_initialized_RowForge_Query, by decide, by decide⟩
theorem mv_Query_isViewable : MV m_Query_isViewable 0 := ⟨mo_Query_isViewable, by decide +kernel, tq8 234 rfl rfl, tq8 235 rfl rfl⟩
abbrev m_Query_isViewableGroup : MD := (⟨"RowForge$Query", "isViewableGroup", "(I)Z"⟩, prog_6_method_18_code, 3, some (Jvm.ClassFile.FieldType.boolean), [])
theorem mo_Query_isViewableGroup : MOK m_Query_isViewableGroup := ⟨tq9 1 rfl rfl, rfl, kw_initialized_RowForge_Query, by decide, by decide⟩
theorem mv_Query_isViewableGroup : MV m_Query_isViewableGroup 1 := ⟨mo_Query_isViewableGroup, by decide +kernel, tq9 0 rfl rfl, tb 62 rfl rfl⟩
abbrev m_Law_viewRows : MD := (⟨"RowForgeLaw", "viewRows", "(LRowForge;I[J)I"⟩, method_37_code, 4, some (Jvm.ClassFile.FieldType.int), [((0 : Nat), (9 : Nat), (12 : Nat), (21 : Nat))])
theorem cd_Law_viewRows : (Jvm.Cond.codeWith ({ cls := "RowForgeLaw", name := "viewRows", desc := "(LRowForge;I[J)I" } : Jvm.MethodName) method_37_code (4 : Nat) (Option.some Jvm.ClassFile.FieldType.int) [((0 : Nat), (9 : Nat), (12 : Nat), (21 : Nat))]) ∈ TB := tq9 4 rfl rfl
abbrev m_F_viewRows : MD := (⟨"RowForge", "viewRows", "(I)I"⟩, prog_1_method_39_code, 2, some (Jvm.ClassFile.FieldType.int), [])
theorem mo_F_viewRows : MOK m_F_viewRows := ⟨tq9 8 rfl rfl, rfl, kw_initialized_RowForge, by decide, by decide⟩
theorem mv_F_viewRows : MV m_F_viewRows 1 := ⟨mo_F_viewRows, by decide +kernel, tq9 6 rfl rfl, tq9 7 rfl rfl⟩
abbrev m_F_hasView : MD := (⟨"RowForge", "hasView", "(I)Z"⟩, prog_1_method_57_code, 2, some (Jvm.ClassFile.FieldType.boolean), [])
theorem mo_F_hasView : MOK m_F_hasView := ⟨tq9 12 rfl rfl, rfl, kw_initialized_RowForge, by decide, by decide⟩
theorem mv_F_hasView : MV m_F_hasView 1 := ⟨mo_F_hasView, by decide +kernel, tq9 11 rfl rfl, tb 63 rfl rfl⟩
abbrev m_Law_viewAt : MD := (⟨"RowForgeLaw", "viewAt", "(LRowForge;III[J)I"⟩, method_38_code, 6, some (Jvm.ClassFile.FieldType.int), [((0 : Nat), (12 : Nat), (15 : Nat), (21 : Nat))])
theorem cd_Law_viewAt : (Jvm.Cond.codeWith ({ cls := "RowForgeLaw", name := "viewAt", desc := "(LRowForge;III[J)I" } : Jvm.MethodName) method_38_code (6 : Nat) (Option.some Jvm.ClassFile.FieldType.int) [((0 : Nat), (12 : Nat), (15 : Nat), (21 : Nat))]) ∈ TB := tq9 15 rfl rfl
abbrev m_F_viewAt : MD := (⟨"RowForge", "viewAt", "(III)I"⟩, prog_1_method_40_code, 4, some (Jvm.ClassFile.FieldType.int), [])
theorem mo_F_viewAt : MOK m_F_viewAt := ⟨tq9 19 rfl rfl, rfl, kw_initialized_RowForge, by decide, by decide⟩
theorem mv_F_viewAt : MV m_F_viewAt 3 := ⟨mo_F_viewAt, by decide +kernel, tq9 17 rfl rfl, tq9 18 rfl rfl⟩
abbrev m_Law_viewAnew : MD := (⟨"RowForgeLaw", "viewAnew", "(LRowForge;III[J)I"⟩, method_39_code, 6, some (Jvm.ClassFile.FieldType.int), [((0 : Nat), (12 : Nat), (15 : Nat), (21 : Nat))])
theorem cd_Law_viewAnew : (Jvm.Cond.codeWith ({ cls := "RowForgeLaw", name := "viewAnew", desc := "(LRowForge;III[J)I" } : Jvm.MethodName) method_39_code (6 : Nat) (Option.some Jvm.ClassFile.FieldType.int) [((0 : Nat), (12 : Nat), (15 : Nat), (21 : Nat))]) ∈ TB := tq9 22 rfl rfl
abbrev m_F_viewAnew : MD := (⟨"RowForge", "viewAnew", "(III)I"⟩, prog_1_method_41_code, 4, some (Jvm.ClassFile.FieldType.int), [])
theorem mo_F_viewAnew : MOK m_F_viewAnew := ⟨tq9 26 rfl rfl, rfl, kw_initialized_RowForge, by decide, by decide⟩
theorem mv_F_viewAnew : MV m_F_viewAnew 3 := ⟨mo_F_viewAnew, by decide +kernel, tq9 24 rfl rfl, tq9 25 rfl rfl⟩
abbrev m_Law_crash : MD := (⟨"RowForgeLaw", "crash", "(LRowForge;I[J)I"⟩, method_40_code, 4, some (Jvm.ClassFile.FieldType.int), [((0 : Nat), (9 : Nat), (12 : Nat), (21 : Nat))])
theorem cd_Law_crash : (Jvm.Cond.codeWith ({ cls := "RowForgeLaw", name := "crash", desc := "(LRowForge;I[J)I" } : Jvm.MethodName) method_40_code (4 : Nat) (Option.some Jvm.ClassFile.FieldType.int) [((0 : Nat), (9 : Nat), (12 : Nat), (21 : Nat))]) ∈ TB := tq9 29 rfl rfl
abbrev m_F_crash : MD := (⟨"RowForge", "crash", "(I)I"⟩, prog_1_method_43_code, 2, some (Jvm.ClassFile.FieldType.int), [])
theorem mo_F_crash : MOK m_F_crash := ⟨tq9 33 rfl rfl, rfl, kw_initialized_RowForge, by decide, by decide⟩
theorem mv_F_crash : MV m_F_crash 1 := ⟨mo_F_crash, by decide +kernel, tq9 31 rfl rfl, tq9 32 rfl rfl⟩
abbrev m_Engine_comeBack : MD := (⟨"RowForge$Engine", "comeBack", "(I)I"⟩, prog_2_method_23_code, 4, some (Jvm.ClassFile.FieldType.int), [])
theorem mo_Engine_comeBack : MOK m_Engine_comeBack := ⟨tq9 37 rfl rfl, rfl, kw_initialized_RowForge_Engine, by decide, by decide⟩
theorem mv_Engine_comeBack : MV m_Engine_comeBack 1 := ⟨mo_Engine_comeBack, by decide +kernel, tq9 35 rfl rfl, tq9 36 rfl rfl⟩
abbrev m_Log_cut : MD := (⟨"RowForge$Log", "cut", "(I)V"⟩, prog_4_method_5_code, 2, none, [])
theorem mo_Log_cut : MOK m_Log_cut := ⟨tq9 41 rfl rfl, rfl, kw_initialized_RowForge_Log, by decide, by decide⟩
theorem mv_Log_cut : MV m_Log_cut 1 := ⟨mo_Log_cut, by decide +kernel, tq9 39 rfl rfl, tq9 40 rfl rfl⟩
abbrev m_Log_markLeftOpen : MD := (⟨"RowForge$Log", "markLeftOpen", "()V"⟩, prog_4_method_12_code, 3, none, [])
theorem mo_Log_markLeftOpen : MOK m_Log_markLeftOpen := ⟨tq9 45 rfl rfl, rfl, kw_initialized_RowForge_Log, by decide, by decide⟩
theorem mv_Log_markLeftOpen : MV m_Log_markLeftOpen 0 := ⟨mo_Log_markLeftOpen, by decide +kernel, tq9 43 rfl rfl, tq9 44 rfl rfl⟩
abbrev m_Law_recordKind : MD := (⟨"RowForgeLaw", "recordKind", "(LRowForge;I[J)I"⟩, method_41_code, 4, some (Jvm.ClassFile.FieldType.int), [((0 : Nat), (9 : Nat), (12 : Nat), (21 : Nat))])
theorem cd_Law_recordKind : (Jvm.Cond.codeWith ({ cls := "RowForgeLaw", name := "recordKind", desc := "(LRowForge;I[J)I" } : Jvm.MethodName) method_41_code (4 : Nat) (Option.some Jvm.ClassFile.FieldType.int) [((0 : Nat), (9 : Nat), (12 : Nat), (21 : Nat))]) ∈ TB := tq9 48 rfl rfl
abbrev m_F_recordKind : MD := (⟨"RowForge", "recordKind", "(I)I"⟩, prog_1_method_46_code, 2, some (Jvm.ClassFile.FieldType.int), [])
theorem mo_F_recordKind : MOK m_F_recordKind := ⟨tq9 52 rfl rfl, rfl, kw_initialized_RowForge, by decide, by decide⟩
theorem mv_F_recordKind : MV m_F_recordKind 1 := ⟨mo_F_recordKind, by decide +kernel, tq9 50 rfl rfl, tq9 51 rfl rfl⟩
abbrev m_Log_holds : MD := (⟨"RowForge$Log", "holds", "(I)Z"⟩, prog_4_method_6_code, 2, some (Jvm.ClassFile.FieldType.boolean), [])
theorem mo_Log_holds : MOK m_Log_holds := ⟨tq9 56 rfl rfl, rfl, kw_initialized_RowForge_Log, by decide, by decide⟩
theorem mv_Log_holds : MV m_Log_holds 1 := ⟨mo_Log_holds, by decide +kernel, tq9 54 rfl rfl, tq9 55 rfl rfl⟩
abbrev m_Law_recordOf : MD := (⟨"RowForgeLaw", "recordOf", "(LRowForge;I[J)I"⟩, method_42_code, 4, some (Jvm.ClassFile.FieldType.int), [((0 : Nat), (9 : Nat), (12 : Nat), (21 : Nat))])
theorem cd_Law_recordOf : (Jvm.Cond.codeWith ({ cls := "RowForgeLaw", name := "recordOf", desc := "(LRowForge;I[J)I" } : Jvm.MethodName) method_42_code (4 : Nat) (Option.some Jvm.ClassFile.FieldType.int) [((0 : Nat), (9 : Nat), (12 : Nat), (21 : Nat))]) ∈ TB := tq9 60 rfl rfl
abbrev m_F_recordOf : MD := (⟨"RowForge", "recordOf", "(I)I"⟩, prog_1_method_47_code, 2, some (Jvm.ClassFile.FieldType.int), [])
theorem mo_F_recordOf : MOK m_F_recordOf := ⟨tq9 64 rfl rfl, rfl, kw_initialized_RowForge, by decide, by decide⟩
theorem mv_F_recordOf : MV m_F_recordOf 1 := ⟨mo_F_recordOf, by decide +kernel, tq9 62 rfl rfl, tq9 63 rfl rfl⟩
abbrev m_Law_recordAt : MD := (⟨"RowForgeLaw", "recordAt", "(LRowForge;IZ[J)I"⟩, method_43_code, 5, some (Jvm.ClassFile.FieldType.int), [((0 : Nat), (10 : Nat), (13 : Nat), (21 : Nat))])
theorem cd_Law_recordAt : (Jvm.Cond.codeWith ({ cls := "RowForgeLaw", name := "recordAt", desc := "(LRowForge;IZ[J)I" } : Jvm.MethodName) method_43_code (5 : Nat) (Option.some Jvm.ClassFile.FieldType.int) [((0 : Nat), (10 : Nat), (13 : Nat), (21 : Nat))]) ∈ TB := tq9 68 rfl rfl
abbrev m_F_recordAt : MD := (⟨"RowForge", "recordAt", "(IZ)I"⟩, prog_1_method_48_code, 3, some (Jvm.ClassFile.FieldType.int), [])
theorem mo_F_recordAt : MOK m_F_recordAt := ⟨tq9 72 rfl rfl, rfl, kw_initialized_RowForge, by decide, by decide⟩
theorem mv_F_recordAt : MV m_F_recordAt 2 := ⟨mo_F_recordAt, by decide +kernel, tq9 70 rfl rfl, tq9 71 rfl rfl⟩
abbrev m_Model_init : MD := (⟨"RowForgeModel", "<init>", "()V"⟩, prog_13_method_1_code, 2, none, [])
theorem mo_Model_init : MOK m_Model_init := ⟨tq9 79 rfl rfl, rfl, kw_initialized_RowForgeModel, by decide, by decide⟩
theorem mi_Model_init : MI m_Model_init 0 := ⟨mo_Model_init, by decide +kernel, tq9 78 rfl rfl, rfl, rfl⟩
abbrev m_Model_thrown : MD := (⟨"RowForgeModel", "thrown", "()I"⟩, prog_13_method_2_code, 1, some (Jvm.ClassFile.FieldType.int), [])
theorem mo_Model_thrown : MOK m_Model_thrown := ⟨tq10 130 rfl rfl, rfl, kw_initialized_RowForgeModel, by decide, by decide⟩
theorem mv_Model_thrown : MV m_Model_thrown 0 := ⟨mo_Model_thrown, by decide +kernel, tq10 128 rfl rfl, tq10 129 rfl rfl⟩
abbrev m_Model_table : MD := (⟨"RowForgeModel", "table", "(I)I"⟩, prog_13_method_14_code, 2, some (Jvm.ClassFile.FieldType.int), [])
theorem mo_Model_table : MOK m_Model_table := ⟨tq10 134 rfl rfl, rfl, kw_initialized_RowForgeModel, by decide, by decide⟩
theorem mv_Model_table : MV m_Model_table 1 := ⟨mo_Model_table, by decide +kernel, tq10 132 rfl rfl, tq10 133 rfl rfl⟩
abbrev m_Model_isIn : MD := (⟨"RowForgeModel", "isIn", "(III)Z"⟩, prog_13_method_5_code, 3, some (Jvm.ClassFile.FieldType.boolean), [])
theorem mo_Model_isIn : MOK m_Model_isIn := ⟨tq10 137 rfl rfl, rfl, kw_initialized_RowForgeModel, by decide, by decide⟩
theorem ms_Model_isIn : MS m_Model_isIn 3 := ⟨mo_Model_isIn, by decide +kernel, tq10 136 rfl rfl⟩
abbrev m_Model_isUnderWay : MD := (⟨"RowForgeModel", "isUnderWay", "()Z"⟩, prog_13_method_12_code, 3, some (Jvm.ClassFile.FieldType.boolean), [])
theorem mo_Model_isUnderWay : MOK m_Model_isUnderWay := ⟨tq10 141 rfl rfl, rfl, kw_initialized_RowForgeModel, by decide, by decide⟩
theorem mv_Model_isUnderWay : MV m_Model_isUnderWay 0 := ⟨mo_Model_isUnderWay, by decide +kernel, tq10 140 rfl rfl, tb 64 rfl rfl⟩
abbrev m_Model_fails : MD := (⟨"RowForgeModel", "fails", "(I)Z"⟩, prog_13_method_3_code, 2, some (Jvm.ClassFile.FieldType.boolean), [])
theorem mo_Model_fails : MOK m_Model_fails := ⟨tq10 145 rfl rfl, rfl, kw_initialized_RowForgeModel, by decide, by decide⟩
theorem mv_Model_fails : MV m_Model_fails 1 := ⟨mo_Model_fails, by decide +kernel, tq10 144 rfl rfl, tb 65 rfl rfl⟩
abbrev m_Model_throwsPlans : MD := (⟨"RowForgeModel", "throwsPlans", "()V"⟩, prog_13_method_13_code, 2, none, [])
theorem mo_Model_throwsPlans : MOK m_Model_throwsPlans := ⟨tq10 149 rfl rfl, rfl, kw_initialized_RowForgeModel, by decide, by decide⟩
theorem mv_Model_throwsPlans : MV m_Model_throwsPlans 0 := ⟨mo_Model_throwsPlans, by decide +kernel, tq10 148 rfl rfl, tb 66 rfl rfl⟩
abbrev m_Model_check : MD := (⟨"RowForgeModel", "check", "(IIII)I"⟩, prog_13_method_15_code, 8, some (Jvm.ClassFile.FieldType.int), [])
theorem mo_Model_check : MOK m_Model_check := ⟨tq10 153 rfl rfl, rfl, kw_initialized_RowForgeModel, by decide, by decide⟩
theorem mv_Model_check : MV m_Model_check 4 := ⟨mo_Model_check, by decide +kernel, tq10 151 rfl rfl, tq10 152 rfl rfl⟩
abbrev m_Model_isColumn : MD := (⟨"RowForgeModel", "isColumn", "(II)Z"⟩, prog_13_method_10_code, 3, some (Jvm.ClassFile.FieldType.boolean), [])
theorem mo_Model_isColumn : MOK m_Model_isColumn := ⟨tq10 157 rfl rfl, rfl, kw_initialized_RowForgeModel, by decide, by decide⟩
theorem mv_Model_isColumn : MV m_Model_isColumn 2 := ⟨mo_Model_isColumn, by decide +kernel, tq10 156 rfl rfl, tb 67 rfl rfl⟩
abbrev m_Model_isTable : MD := (⟨"RowForgeModel", "isTable", "(I)Z"⟩, prog_13_method_9_code, 2, some (Jvm.ClassFile.FieldType.boolean), [])
theorem mo_Model_isTable : MOK m_Model_isTable := ⟨tq10 161 rfl rfl, rfl, kw_initialized_RowForgeModel, by decide, by decide⟩
theorem mv_Model_isTable : MV m_Model_isTable 1 := ⟨mo_Model_isTable, by decide +kernel, tq10 160 rfl rfl, tb 68 rfl rfl⟩
abbrev m_Model_isHow : MD := (⟨"RowForgeModel", "isHow", "(I)Z"⟩, prog_13_method_7_code, 1, some (Jvm.ClassFile.FieldType.boolean), [])
theorem mo_Model_isHow : MOK m_Model_isHow := ⟨tq10 164 rfl rfl, rfl, kw_initialized_RowForgeModel, by decide, by decide⟩
theorem ms_Model_isHow : MS m_Model_isHow 1 := ⟨mo_Model_isHow, by decide +kernel, tq10 163 rfl rfl⟩
abbrev m_Model_isValue : MD := (⟨"RowForgeModel", "isValue", "(I)Z"⟩, prog_13_method_8_code, 1, some (Jvm.ClassFile.FieldType.boolean), [])
theorem mo_Model_isValue : MOK m_Model_isValue := ⟨tq10 167 rfl rfl, rfl, kw_initialized_RowForgeModel, by decide, by decide⟩
theorem ms_Model_isValue : MS m_Model_isValue 1 := ⟨mo_Model_isValue, by decide +kernel, tq10 166 rfl rfl⟩
abbrev m_Model_refer : MD := (⟨"RowForgeModel", "refer", "(IIII)V"⟩, prog_13_method_16_code, 7, none, [])
theorem mo_Model_refer : MOK m_Model_refer := ⟨tq10 171 rfl rfl, rfl, kw_initialized_RowForgeModel, by decide, by decide⟩
theorem mv_Model_refer : MV m_Model_refer 4 := ⟨mo_Model_refer, by decide +kernel, tq10 169 rfl rfl, tq10 170 rfl rfl⟩
abbrev m_Model_veil : MD := (⟨"RowForgeModel", "veil", "(IIIII)I"⟩, prog_13_method_17_code, 8, some (Jvm.ClassFile.FieldType.int), [])
theorem mo_Model_veil : MOK m_Model_veil := ⟨tq10 175 rfl rfl, rfl, kw_initialized_RowForgeModel, by decide, by decide⟩
theorem mv_Model_veil : MV m_Model_veil 5 := ⟨mo_Model_veil, by decide +kernel, tq10 173 rfl rfl, tq10 174 rfl rfl⟩
abbrev m_Model_begin : MD := (⟨"RowForgeModel", "begin", "(I)I"⟩, prog_13_method_24_code, 7, some (Jvm.ClassFile.FieldType.int), [])
theorem mo_Model_begin : MOK m_Model_begin := ⟨tq10 179 rfl rfl, rfl, kw_initialized_RowForgeModel, by decide, by decide⟩
theorem mv_Model_begin : MV m_Model_begin 1 := ⟨mo_Model_begin, by decide +kernel, tq10 177 rfl rfl, tq10 178 rfl rfl⟩
abbrev m_Model_copiesRow : MD := (⟨"RowForgeModel", "copiesRow", "(IIIII)V"⟩, prog_13_method_20_code, 7, none, [])
theorem mo_Model_copiesRow : MOK m_Model_copiesRow := ⟨tq10 183 rfl rfl, rfl, kw_initialized_RowForgeModel, by decide, by decide⟩
theorem mv_Model_copiesRow : MV m_Model_copiesRow 5 := ⟨mo_Model_copiesRow, by decide +kernel, tq10 182 rfl rfl, tb 69 rfl rfl⟩
abbrev m_Model_cell : MD := (⟨"RowForgeModel", "cell", "(IIII)I"⟩, prog_13_method_18_code, 4, some (Jvm.ClassFile.FieldType.int), [])
theorem mo_Model_cell : MOK m_Model_cell := ⟨tq10 186 rfl rfl, rfl, kw_initialized_RowForgeModel, by decide, by decide⟩
theorem ms_Model_cell : MS m_Model_cell 4 := ⟨mo_Model_cell, by decide +kernel, tq10 185 rfl rfl⟩
abbrev m_Model_value : MD := (⟨"RowForgeModel", "value", "(I)I"⟩, prog_13_method_25_code, 3, some (Jvm.ClassFile.FieldType.int), [])
theorem mo_Model_value : MOK m_Model_value := ⟨tq10 190 rfl rfl, rfl, kw_initialized_RowForgeModel, by decide, by decide⟩
theorem mv_Model_value : MV m_Model_value 1 := ⟨mo_Model_value, by decide +kernel, tq10 188 rfl rfl, tq10 189 rfl rfl⟩
abbrev m_Model_insert : MD := (⟨"RowForgeModel", "insert", "(II)I"⟩, prog_13_method_48_code, 5, some (Jvm.ClassFile.FieldType.int), [])
theorem mo_Model_insert : MOK m_Model_insert := ⟨tq10 195 rfl rfl, rfl, kw_initialized_RowForgeModel, by decide, by decide⟩
theorem mv_Model_insert : MV m_Model_insert 2 := ⟨mo_Model_insert, by decide +kernel, tq10 193 rfl rfl, tq10 194 rfl rfl⟩
abbrev m_Model_isTransaction : MD := (⟨"RowForgeModel", "isTransaction", "(I)Z"⟩, prog_13_method_23_code, 2, some (Jvm.ClassFile.FieldType.boolean), [])
theorem mo_Model_isTransaction : MOK m_Model_isTransaction := ⟨tq10 199 rfl rfl, rfl, kw_initialized_RowForgeModel, by decide, by decide⟩
theorem mv_Model_isTransaction : MV m_Model_isTransaction 1 := ⟨mo_Model_isTransaction, by decide +kernel, tq10 198 rfl rfl, tb 70 rfl rfl⟩
abbrev m_Model_acts : MD := (⟨"RowForgeModel", "acts", "(III)I"⟩, prog_13_method_47_code, 5, some (Jvm.ClassFile.FieldType.int), [])
theorem mo_Model_acts : MOK m_Model_acts := ⟨tq10 203 rfl rfl, rfl, kw_initialized_RowForgeModel, by decide, by decide⟩
theorem mv_Model_acts : MV m_Model_acts 3 := ⟨mo_Model_acts, by decide +kernel, tq10 202 rfl rfl, tb 71 rfl rfl⟩
abbrev m_Model_tries : MD := (⟨"RowForgeModel", "tries", "(I)I"⟩, prog_13_method_44_code, 6, some (Jvm.ClassFile.FieldType.int), [])
theorem mo_Model_tries : MOK m_Model_tries := ⟨tq10 207 rfl rfl, rfl, kw_initialized_RowForgeModel, by decide, by decide⟩
theorem mv_Model_tries : MV m_Model_tries 1 := ⟨mo_Model_tries, by decide +kernel, tq10 206 rfl rfl, tb 72 rfl rfl⟩
abbrev m_Model_wantsInsert : MD := (⟨"RowForgeModel", "wantsInsert", "(I)Z"⟩, prog_13_method_34_code, 6, some (Jvm.ClassFile.FieldType.boolean), [])
theorem mo_Model_wantsInsert : MOK m_Model_wantsInsert := ⟨tq10 211 rfl rfl, rfl, kw_initialized_RowForgeModel, by decide, by decide⟩
theorem mv_Model_wantsInsert : MV m_Model_wantsInsert 1 := ⟨mo_Model_wantsInsert, by decide +kernel, tq10 210 rfl rfl, tb 73 rfl rfl⟩
abbrev m_Model_readsKey : MD := (⟨"RowForgeModel", "readsKey", "(III)V"⟩, prog_13_method_27_code, 5, none, [])
theorem mo_Model_readsKey : MOK m_Model_readsKey := ⟨tq10 215 rfl rfl, rfl, kw_initialized_RowForgeModel, by decide, by decide⟩
theorem mv_Model_readsKey : MV m_Model_readsKey 3 := ⟨mo_Model_readsKey, by decide +kernel, tq10 214 rfl rfl, tb 74 rfl rfl⟩
abbrev m_Model_hasReadKey : MD := (⟨"RowForgeModel", "hasReadKey", "(III)Z"⟩, prog_13_method_26_code, 6, some (Jvm.ClassFile.FieldType.boolean), [])
theorem mo_Model_hasReadKey : MOK m_Model_hasReadKey := ⟨tq10 219 rfl rfl, rfl, kw_initialized_RowForgeModel, by decide, by decide⟩
theorem mv_Model_hasReadKey : MV m_Model_hasReadKey 3 := ⟨mo_Model_hasReadKey, by decide +kernel, tq10 218 rfl rfl, tb 75 rfl rfl⟩
abbrev m_Model_readsReference : MD := (⟨"RowForgeModel", "readsReference", "(IIII)V"⟩, prog_13_method_32_code, 6, none, [])
theorem mo_Model_readsReference : MOK m_Model_readsReference := ⟨tq10 223 rfl rfl, rfl, kw_initialized_RowForgeModel, by decide, by decide⟩
theorem mv_Model_readsReference : MV m_Model_readsReference 4 := ⟨mo_Model_readsReference, by decide +kernel, tq10 222 rfl rfl, tb 76 rfl rfl⟩
abbrev m_Model_find : MD := (⟨"RowForgeModel", "find", "(III)I"⟩, prog_13_method_19_code, 5, some (Jvm.ClassFile.FieldType.int), [])
theorem mo_Model_find : MOK m_Model_find := ⟨tq10 227 rfl rfl, rfl, kw_initialized_RowForgeModel, by decide, by decide⟩
theorem mv_Model_find : MV m_Model_find 3 := ⟨mo_Model_find, by decide +kernel, tq10 226 rfl rfl, tb 77 rfl rfl⟩
abbrev m_Model_isAllowed : MD := (⟨"RowForgeModel", "isAllowed", "(IIII)Z"⟩, prog_13_method_31_code, 7, some (Jvm.ClassFile.FieldType.boolean), [])
theorem mo_Model_isAllowed : MOK m_Model_isAllowed := ⟨tq10 231 rfl rfl, rfl, kw_initialized_RowForgeModel, by decide, by decide⟩
theorem mv_Model_isAllowed : MV m_Model_isAllowed 4 := ⟨mo_Model_isAllowed, by decide +kernel, tq10 230 rfl rfl, tb 78 rfl rfl⟩
abbrev m_Model_compares : MD := (⟨"RowForgeModel", "compares", "(III)I"⟩, prog_13_method_11_code, 4, some (Jvm.ClassFile.FieldType.int), [])
theorem mo_Model_compares : MOK m_Model_compares := ⟨tq10 234 rfl rfl, rfl, kw_initialized_RowForgeModel, by decide, by decide⟩
theorem ms_Model_compares : MS m_Model_compares 3 := ⟨mo_Model_compares, by decide +kernel, tq10 233 rfl rfl⟩
abbrev m_Model_wants : MD := (⟨"RowForgeModel", "wants", "(II)V"⟩, prog_13_method_33_code, 3, none, [])
theorem mo_Model_wants : MOK m_Model_wants := ⟨tq10 238 rfl rfl, rfl, kw_initialized_RowForgeModel, by decide, by decide⟩
theorem mv_Model_wants : MV m_Model_wants 2 := ⟨mo_Model_wants, by decide +kernel, tq10 237 rfl rfl, tb 79 rfl rfl⟩
abbrev m_Model_wantsUpdate : MD := (⟨"RowForgeModel", "wantsUpdate", "(I)Z"⟩, prog_13_method_35_code, 4, some (Jvm.ClassFile.FieldType.boolean), [])
theorem mo_Model_wantsUpdate : MOK m_Model_wantsUpdate := ⟨tq11 2 rfl rfl, rfl, kw_initialized_RowForgeModel, by decide, by decide⟩
theorem mv_Model_wantsUpdate : MV m_Model_wantsUpdate 1 := ⟨mo_Model_wantsUpdate, by decide +kernel, tq11 1 rfl rfl, tb 80 rfl rfl⟩
abbrev m_Model_isSeen : MD := (⟨"RowForgeModel", "isSeen", "(IIII)Z"⟩, prog_13_method_22_code, 7, some (Jvm.ClassFile.FieldType.boolean), [])
theorem mo_Model_isSeen : MOK m_Model_isSeen := ⟨tq11 6 rfl rfl, rfl, kw_initialized_RowForgeModel, by decide, by decide⟩
theorem mv_Model_isSeen : MV m_Model_isSeen 4 := ⟨mo_Model_isSeen, by decide +kernel, tq11 5 rfl rfl, tb 81 rfl rfl⟩
abbrev m_Model_wantsDelete : MD := (⟨"RowForgeModel", "wantsDelete", "(I)Z"⟩, prog_13_method_38_code, 9, some (Jvm.ClassFile.FieldType.boolean), [])
theorem mo_Model_wantsDelete : MOK m_Model_wantsDelete := ⟨tq11 10 rfl rfl, rfl, kw_initialized_RowForgeModel, by decide, by decide⟩
theorem mv_Model_wantsDelete : MV m_Model_wantsDelete 1 := ⟨mo_Model_wantsDelete, by decide +kernel, tq11 9 rfl rfl, tb 82 rfl rfl⟩
abbrev m_Model_refers : MD := (⟨"RowForgeModel", "refers", "(IIII)Z"⟩, prog_13_method_36_code, 7, some (Jvm.ClassFile.FieldType.boolean), [])
theorem mo_Model_refers : MOK m_Model_refers := ⟨tq11 14 rfl rfl, rfl, kw_initialized_RowForgeModel, by decide, by decide⟩
theorem mv_Model_refers : MV m_Model_refers 4 := ⟨mo_Model_refers, by decide +kernel, tq11 13 rfl rfl, tb 83 rfl rfl⟩
abbrev m_Model_isBroken : MD := (⟨"RowForgeModel", "isBroken", "(IIII)Z"⟩, prog_13_method_37_code, 8, some (Jvm.ClassFile.FieldType.boolean), [])
theorem mo_Model_isBroken : MOK m_Model_isBroken := ⟨tq11 18 rfl rfl, rfl, kw_initialized_RowForgeModel, by decide, by decide⟩
theorem mv_Model_isBroken : MV m_Model_isBroken 4 := ⟨mo_Model_isBroken, by decide +kernel, tq11 17 rfl rfl, tb 84 rfl rfl⟩
abbrev m_Model_readsReferrers : MD := (⟨"RowForgeModel", "readsReferrers", "(II)V"⟩, prog_13_method_39_code, 4, none, [])
theorem mo_Model_readsReferrers : MOK m_Model_readsReferrers := ⟨tq11 22 rfl rfl, rfl, kw_initialized_RowForgeModel, by decide, by decide⟩
theorem mv_Model_readsReferrers : MV m_Model_readsReferrers 2 := ⟨mo_Model_readsReferrers, by decide +kernel, tq11 21 rfl rfl, tb 85 rfl rfl⟩
abbrev m_Model_sortsWrites : MD := (⟨"RowForgeModel", "sortsWrites", "()V"⟩, prog_13_method_40_code, 5, none, [])
theorem mo_Model_sortsWrites : MOK m_Model_sortsWrites := ⟨tq11 26 rfl rfl, rfl, kw_initialized_RowForgeModel, by decide, by decide⟩
theorem mv_Model_sortsWrites : MV m_Model_sortsWrites 0 := ⟨mo_Model_sortsWrites, by decide +kernel, tq11 25 rfl rfl, tb 86 rfl rfl⟩
abbrev m_Model_writer : MD := (⟨"RowForgeModel", "writer", "(III)I"⟩, prog_13_method_41_code, 7, some (Jvm.ClassFile.FieldType.int), [])
theorem mo_Model_writer : MOK m_Model_writer := ⟨tq11 30 rfl rfl, rfl, kw_initialized_RowForgeModel, by decide, by decide⟩
theorem mv_Model_writer : MV m_Model_writer 3 := ⟨mo_Model_writer, by decide +kernel, tq11 29 rfl rfl, tb 87 rfl rfl⟩
abbrev m_Model_aborts : MD := (⟨"RowForgeModel", "aborts", "(I)I"⟩, prog_13_method_30_code, 4, some (Jvm.ClassFile.FieldType.int), [])
theorem mo_Model_aborts : MOK m_Model_aborts := ⟨tq11 34 rfl rfl, rfl, kw_initialized_RowForgeModel, by decide, by decide⟩
theorem mv_Model_aborts : MV m_Model_aborts 1 := ⟨mo_Model_aborts, by decide +kernel, tq11 33 rfl rfl, tb 88 rfl rfl⟩
abbrev m_Model_notes : MD := (⟨"RowForgeModel", "notes", "(IIII)V"⟩, prog_13_method_28_code, 5, none, [])
theorem mo_Model_notes : MOK m_Model_notes := ⟨tq11 38 rfl rfl, rfl, kw_initialized_RowForgeModel, by decide, by decide⟩
theorem mv_Model_notes : MV m_Model_notes 4 := ⟨mo_Model_notes, by decide +kernel, tq11 37 rfl rfl, tb 89 rfl rfl⟩
abbrev m_Model_ends : MD := (⟨"RowForgeModel", "ends", "(II)V"⟩, prog_13_method_29_code, 3, none, [])
theorem mo_Model_ends : MOK m_Model_ends := ⟨tq11 42 rfl rfl, rfl, kw_initialized_RowForgeModel, by decide, by decide⟩
theorem mv_Model_ends : MV m_Model_ends 2 := ⟨mo_Model_ends, by decide +kernel, tq11 41 rfl rfl, tb 90 rfl rfl⟩
abbrev m_Model_does : MD := (⟨"RowForgeModel", "does", "(I)V"⟩, prog_13_method_42_code, 6, none, [])
theorem mo_Model_does : MOK m_Model_does := ⟨tq11 46 rfl rfl, rfl, kw_initialized_RowForgeModel, by decide, by decide⟩
theorem mv_Model_does : MV m_Model_does 1 := ⟨mo_Model_does, by decide +kernel, tq11 45 rfl rfl, tb 91 rfl rfl⟩
abbrev m_Model_deletes : MD := (⟨"RowForgeModel", "deletes", "(I)V"⟩, prog_13_method_43_code, 4, none, [])
theorem mo_Model_deletes : MOK m_Model_deletes := ⟨tq11 50 rfl rfl, rfl, kw_initialized_RowForgeModel, by decide, by decide⟩
theorem mv_Model_deletes : MV m_Model_deletes 1 := ⟨mo_Model_deletes, by decide +kernel, tq11 49 rfl rfl, tb 92 rfl rfl⟩
abbrev m_Model_takesOut : MD := (⟨"RowForgeModel", "takesOut", "(III)V"⟩, prog_13_method_21_code, 4, none, [])
theorem mo_Model_takesOut : MOK m_Model_takesOut := ⟨tq11 54 rfl rfl, rfl, kw_initialized_RowForgeModel, by decide, by decide⟩
theorem mv_Model_takesOut : MV m_Model_takesOut 3 := ⟨mo_Model_takesOut, by decide +kernel, tq11 53 rfl rfl, tb 93 rfl rfl⟩
abbrev m_Model_settles : MD := (⟨"RowForgeModel", "settles", "()V"⟩, prog_13_method_45_code, 2, none, [])
theorem mo_Model_settles : MOK m_Model_settles := ⟨tq11 58 rfl rfl, rfl, kw_initialized_RowForgeModel, by decide, by decide⟩
theorem mv_Model_settles : MV m_Model_settles 0 := ⟨mo_Model_settles, by decide +kernel, tq11 57 rfl rfl, tb 94 rfl rfl⟩
abbrev m_Model_nextOf : MD := (⟨"RowForgeModel", "nextOf", "()I"⟩, prog_13_method_46_code, 3, some (Jvm.ClassFile.FieldType.int), [])
theorem mo_Model_nextOf : MOK m_Model_nextOf := ⟨tq11 62 rfl rfl, rfl, kw_initialized_RowForgeModel, by decide, by decide⟩
theorem mv_Model_nextOf : MV m_Model_nextOf 0 := ⟨mo_Model_nextOf, by decide +kernel, tq11 61 rfl rfl, tb 95 rfl rfl⟩
abbrev m_Model_update : MD := (⟨"RowForgeModel", "update", "(IIIII)I"⟩, prog_13_method_49_code, 8, some (Jvm.ClassFile.FieldType.int), [])
theorem mo_Model_update : MOK m_Model_update := ⟨tq11 66 rfl rfl, rfl, kw_initialized_RowForgeModel, by decide, by decide⟩
theorem mv_Model_update : MV m_Model_update 5 := ⟨mo_Model_update, by decide +kernel, tq11 64 rfl rfl, tq11 65 rfl rfl⟩
abbrev m_Model_delete : MD := (⟨"RowForgeModel", "delete", "(III)I"⟩, prog_13_method_50_code, 5, some (Jvm.ClassFile.FieldType.int), [])
theorem mo_Model_delete : MOK m_Model_delete := ⟨tq11 70 rfl rfl, rfl, kw_initialized_RowForgeModel, by decide, by decide⟩
theorem mv_Model_delete : MV m_Model_delete 3 := ⟨mo_Model_delete, by decide +kernel, tq11 68 rfl rfl, tq11 69 rfl rfl⟩
abbrev m_Model_commit : MD := (⟨"RowForgeModel", "commit", "(I)I"⟩, prog_13_method_55_code, 5, some (Jvm.ClassFile.FieldType.int), [])
theorem mo_Model_commit : MOK m_Model_commit := ⟨tq11 74 rfl rfl, rfl, kw_initialized_RowForgeModel, by decide, by decide⟩
theorem mv_Model_commit : MV m_Model_commit 1 := ⟨mo_Model_commit, by decide +kernel, tq11 72 rfl rfl, tq11 73 rfl rfl⟩
abbrev m_Model_isOld : MD := (⟨"RowForgeModel", "isOld", "(I)Z"⟩, prog_13_method_51_code, 4, some (Jvm.ClassFile.FieldType.boolean), [])
theorem mo_Model_isOld : MOK m_Model_isOld := ⟨tq11 78 rfl rfl, rfl, kw_initialized_RowForgeModel, by decide, by decide⟩
theorem mv_Model_isOld : MV m_Model_isOld 1 := ⟨mo_Model_isOld, by decide +kernel, tq11 77 rfl rfl, tb 96 rfl rfl⟩
abbrev m_Model_isTooMuch : MD := (⟨"RowForgeModel", "isTooMuch", "(I)Z"⟩, prog_13_method_54_code, 6, some (Jvm.ClassFile.FieldType.boolean), [])
theorem mo_Model_isTooMuch : MOK m_Model_isTooMuch := ⟨tq11 82 rfl rfl, rfl, kw_initialized_RowForgeModel, by decide, by decide⟩
theorem mv_Model_isTooMuch : MV m_Model_isTooMuch 1 := ⟨mo_Model_isTooMuch, by decide +kernel, tq11 81 rfl rfl, tb 97 rfl rfl⟩
abbrev m_Model_isFirstWrite : MD := (⟨"RowForgeModel", "isFirstWrite", "(I)Z"⟩, prog_13_method_53_code, 4, some (Jvm.ClassFile.FieldType.boolean), [])
theorem mo_Model_isFirstWrite : MOK m_Model_isFirstWrite := ⟨tq11 86 rfl rfl, rfl, kw_initialized_RowForgeModel, by decide, by decide⟩
theorem mv_Model_isFirstWrite : MV m_Model_isFirstWrite 1 := ⟨mo_Model_isFirstWrite, by decide +kernel, tq11 85 rfl rfl, tb 98 rfl rfl⟩
abbrev m_Model_commits : MD := (⟨"RowForgeModel", "commits", "(III)V"⟩, prog_13_method_52_code, 7, none, [])
theorem mo_Model_commits : MOK m_Model_commits := ⟨tq11 90 rfl rfl, rfl, kw_initialized_RowForgeModel, by decide, by decide⟩
theorem mv_Model_commits : MV m_Model_commits 3 := ⟨mo_Model_commits, by decide +kernel, tq11 89 rfl rfl, tb 99 rfl rfl⟩
abbrev m_Model_abort : MD := (⟨"RowForgeModel", "abort", "(I)I"⟩, prog_13_method_56_code, 4, some (Jvm.ClassFile.FieldType.int), [])
theorem mo_Model_abort : MOK m_Model_abort := ⟨tq11 94 rfl rfl, rfl, kw_initialized_RowForgeModel, by decide, by decide⟩
theorem mv_Model_abort : MV m_Model_abort 1 := ⟨mo_Model_abort, by decide +kernel, tq11 92 rfl rfl, tq11 93 rfl rfl⟩
abbrev m_Model_state : MD := (⟨"RowForgeModel", "state", "(I)I"⟩, prog_13_method_57_code, 2, some (Jvm.ClassFile.FieldType.int), [])
theorem mo_Model_state : MOK m_Model_state := ⟨tq11 98 rfl rfl, rfl, kw_initialized_RowForgeModel, by decide, by decide⟩
theorem mv_Model_state : MV m_Model_state 1 := ⟨mo_Model_state, by decide +kernel, tq11 96 rfl rfl, tq11 97 rfl rfl⟩
abbrev m_Model_outcome : MD := (⟨"RowForgeModel", "outcome", "(I)I"⟩, prog_13_method_58_code, 2, some (Jvm.ClassFile.FieldType.int), [])
theorem mo_Model_outcome : MOK m_Model_outcome := ⟨tq11 102 rfl rfl, rfl, kw_initialized_RowForgeModel, by decide, by decide⟩
theorem mv_Model_outcome : MV m_Model_outcome 1 := ⟨mo_Model_outcome, by decide +kernel, tq11 100 rfl rfl, tq11 101 rfl rfl⟩
abbrev m_Model_waitsFor : MD := (⟨"RowForgeModel", "waitsFor", "(I)I"⟩, prog_13_method_59_code, 2, some (Jvm.ClassFile.FieldType.int), [])
theorem mo_Model_waitsFor : MOK m_Model_waitsFor := ⟨tq11 106 rfl rfl, rfl, kw_initialized_RowForgeModel, by decide, by decide⟩
theorem mv_Model_waitsFor : MV m_Model_waitsFor 1 := ⟨mo_Model_waitsFor, by decide +kernel, tq11 104 rfl rfl, tq11 105 rfl rfl⟩
abbrev m_Model_hasRead : MD := (⟨"RowForgeModel", "hasRead", "(III)Z"⟩, prog_13_method_60_code, 5, some (Jvm.ClassFile.FieldType.boolean), [])
theorem mo_Model_hasRead : MOK m_Model_hasRead := ⟨tq11 110 rfl rfl, rfl, kw_initialized_RowForgeModel, by decide, by decide⟩
theorem mv_Model_hasRead : MV m_Model_hasRead 3 := ⟨mo_Model_hasRead, by decide +kernel, tq11 108 rfl rfl, tq11 109 rfl rfl⟩
abbrev m_Model_own : MD := (⟨"RowForgeModel", "own", "(IIII)I"⟩, prog_13_method_62_code, 6, some (Jvm.ClassFile.FieldType.int), [])
theorem mo_Model_own : MOK m_Model_own := ⟨tq11 114 rfl rfl, rfl, kw_initialized_RowForgeModel, by decide, by decide⟩
theorem mv_Model_own : MV m_Model_own 4 := ⟨mo_Model_own, by decide +kernel, tq11 112 rfl rfl, tq11 113 rfl rfl⟩
abbrev m_Model_valueAt : MD := (⟨"RowForgeModel", "valueAt", "(IIII)I"⟩, prog_13_method_61_code, 6, some (Jvm.ClassFile.FieldType.int), [])
theorem mo_Model_valueAt : MOK m_Model_valueAt := ⟨tq11 118 rfl rfl, rfl, kw_initialized_RowForgeModel, by decide, by decide⟩
theorem mv_Model_valueAt : MV m_Model_valueAt 4 := ⟨mo_Model_valueAt, by decide +kernel, tq11 117 rfl rfl, tb 100 rfl rfl⟩
abbrev m_Model_committed : MD := (⟨"RowForgeModel", "committed", "(III)I"⟩, prog_13_method_64_code, 4, some (Jvm.ClassFile.FieldType.int), [])
theorem mo_Model_committed : MOK m_Model_committed := ⟨tq11 122 rfl rfl, rfl, kw_initialized_RowForgeModel, by decide, by decide⟩
theorem mv_Model_committed : MV m_Model_committed 3 := ⟨mo_Model_committed, by decide +kernel, tq11 120 rfl rfl, tq11 121 rfl rfl⟩
abbrev m_Model_settled : MD := (⟨"RowForgeModel", "settled", "(III)I"⟩, prog_13_method_63_code, 4, some (Jvm.ClassFile.FieldType.int), [])
theorem mo_Model_settled : MOK m_Model_settled := ⟨tq11 126 rfl rfl, rfl, kw_initialized_RowForgeModel, by decide, by decide⟩
theorem mv_Model_settled : MV m_Model_settled 3 := ⟨mo_Model_settled, by decide +kernel, tq11 125 rfl rfl, tb 101 rfl rfl⟩
abbrev m_Model_committedByLog : MD := (⟨"RowForgeModel", "committedByLog", "(III)I"⟩, prog_13_method_65_code, 4, some (Jvm.ClassFile.FieldType.int), [])
theorem mo_Model_committedByLog : MOK m_Model_committedByLog := ⟨tq11 130 rfl rfl, rfl, kw_initialized_RowForgeModel, by decide, by decide⟩
theorem mv_Model_committedByLog : MV m_Model_committedByLog 3 := ⟨mo_Model_committedByLog, by decide +kernel, tq11 128 rfl rfl, tq11 129 rfl rfl⟩
abbrev m_Model_rowsOf : MD := (⟨"RowForgeModel", "rowsOf", "(I)I"⟩, prog_13_method_66_code, 2, some (Jvm.ClassFile.FieldType.int), [])
theorem mo_Model_rowsOf : MOK m_Model_rowsOf := ⟨tq11 134 rfl rfl, rfl, kw_initialized_RowForgeModel, by decide, by decide⟩
theorem mv_Model_rowsOf : MV m_Model_rowsOf 1 := ⟨mo_Model_rowsOf, by decide +kernel, tq11 132 rfl rfl, tq11 133 rfl rfl⟩
abbrev m_Model_scan : MD := (⟨"RowForgeModel", "scan", "(I)I"⟩, prog_13_method_70_code, 2, some (Jvm.ClassFile.FieldType.int), [])
theorem mo_Model_scan : MOK m_Model_scan := ⟨tq11 138 rfl rfl, rfl, kw_initialized_RowForgeModel, by decide, by decide⟩
theorem mv_Model_scan : MV m_Model_scan 1 := ⟨mo_Model_scan, by decide +kernel, tq11 136 rfl rfl, tq11 137 rfl rfl⟩
abbrev m_Model_isFull : MD := (⟨"RowForgeModel", "isFull", "()Z"⟩, prog_13_method_68_code, 1, some (Jvm.ClassFile.FieldType.boolean), [])
theorem mo_Model_isFull : MOK m_Model_isFull := ⟨tq11 142 rfl rfl, rfl, kw_initialized_RowForgeModel, by decide, by decide⟩
theorem mv_Model_isFull : MV m_Model_isFull 0 := ⟨mo_Model_isFull, by decide +kernel, tq11 141 rfl rfl, tb 102 rfl rfl⟩
abbrev m_Model_adds : MD := (⟨"RowForgeModel", "adds", "(IIIIZ)V"⟩, prog_13_method_67_code, 6, none, [])
theorem mo_Model_adds : MOK m_Model_adds := ⟨tq11 146 rfl rfl, rfl, kw_initialized_RowForgeModel, by decide, by decide⟩
theorem mv_Model_adds : MV m_Model_adds 5 := ⟨mo_Model_adds, by decide +kernel, tq11 145 rfl rfl, tb 103 rfl rfl⟩
abbrev m_Model_filter : MD := (⟨"RowForgeModel", "filter", "(IIIZ)I"⟩, prog_13_method_71_code, 6, some (Jvm.ClassFile.FieldType.int), [])
theorem mo_Model_filter : MOK m_Model_filter := ⟨tq11 150 rfl rfl, rfl, kw_initialized_RowForgeModel, by decide, by decide⟩
theorem mv_Model_filter : MV m_Model_filter 4 := ⟨mo_Model_filter, by decide +kernel, tq11 148 rfl rfl, tq11 149 rfl rfl⟩
abbrev m_Model_isOfLast : MD := (⟨"RowForgeModel", "isOfLast", "(I)Z"⟩, prog_13_method_69_code, 2, some (Jvm.ClassFile.FieldType.boolean), [])
theorem mo_Model_isOfLast : MOK m_Model_isOfLast := ⟨tq11 154 rfl rfl, rfl, kw_initialized_RowForgeModel, by decide, by decide⟩
theorem mv_Model_isOfLast : MV m_Model_isOfLast 1 := ⟨mo_Model_isOfLast, by decide +kernel, tq11 153 rfl rfl, tb 104 rfl rfl⟩
abbrev m_Model_filterColumns : MD := (⟨"RowForgeModel", "filterColumns", "(IIIZ)I"⟩, prog_13_method_72_code, 5, some (Jvm.ClassFile.FieldType.int), [])
theorem mo_Model_filterColumns : MOK m_Model_filterColumns := ⟨tq11 158 rfl rfl, rfl, kw_initialized_RowForgeModel, by decide, by decide⟩
theorem mv_Model_filterColumns : MV m_Model_filterColumns 4 := ⟨mo_Model_filterColumns, by decide +kernel, tq11 156 rfl rfl, tq11 157 rfl rfl⟩
abbrev m_Model_ratio : MD := (⟨"RowForgeModel", "ratio", "(III)I"⟩, prog_13_method_73_code, 4, some (Jvm.ClassFile.FieldType.int), [])
theorem mo_Model_ratio : MOK m_Model_ratio := ⟨tq11 162 rfl rfl, rfl, kw_initialized_RowForgeModel, by decide, by decide⟩
theorem mv_Model_ratio : MV m_Model_ratio 3 := ⟨mo_Model_ratio, by decide +kernel, tq11 160 rfl rfl, tq11 161 rfl rfl⟩
abbrev m_Model_join : MD := (⟨"RowForgeModel", "join", "(III)I"⟩, prog_13_method_74_code, 8, some (Jvm.ClassFile.FieldType.int), [])
theorem mo_Model_join : MOK m_Model_join := ⟨tq11 166 rfl rfl, rfl, kw_initialized_RowForgeModel, by decide, by decide⟩
theorem mv_Model_join : MV m_Model_join 3 := ⟨mo_Model_join, by decide +kernel, tq11 164 rfl rfl, tq11 165 rfl rfl⟩
abbrev m_Model_keep : MD := (⟨"RowForgeModel", "keep", "(I)I"⟩, prog_13_method_76_code, 3, some (Jvm.ClassFile.FieldType.int), [])
theorem mo_Model_keep : MOK m_Model_keep := ⟨tq11 170 rfl rfl, rfl, kw_initialized_RowForgeModel, by decide, by decide⟩
theorem mv_Model_keep : MV m_Model_keep 1 := ⟨mo_Model_keep, by decide +kernel, tq11 168 rfl rfl, tq11 169 rfl rfl⟩
abbrev m_Model_counted : MD := (⟨"RowForgeModel", "counted", "(I)I"⟩, prog_13_method_75_code, 3, some (Jvm.ClassFile.FieldType.int), [])
theorem mo_Model_counted : MOK m_Model_counted := ⟨tq11 173 rfl rfl, rfl, kw_initialized_RowForgeModel, by decide, by decide⟩
theorem ms_Model_counted : MS m_Model_counted 1 := ⟨mo_Model_counted, by decide +kernel, tq11 172 rfl rfl⟩
abbrev m_Model_group : MD := (⟨"RowForgeModel", "group", "(III)I"⟩, prog_13_method_77_code, 5, some (Jvm.ClassFile.FieldType.int), [])
theorem mo_Model_group : MOK m_Model_group := ⟨tq11 177 rfl rfl, rfl, kw_initialized_RowForgeModel, by decide, by decide⟩
theorem mv_Model_group : MV m_Model_group 3 := ⟨mo_Model_group, by decide +kernel, tq11 175 rfl rfl, tq11 176 rfl rfl⟩
abbrev m_Model_combine : MD := (⟨"RowForgeModel", "combine", "(I)I"⟩, prog_13_method_78_code, 3, some (Jvm.ClassFile.FieldType.int), [])
theorem mo_Model_combine : MOK m_Model_combine := ⟨tq11 181 rfl rfl, rfl, kw_initialized_RowForgeModel, by decide, by decide⟩
theorem mv_Model_combine : MV m_Model_combine 1 := ⟨mo_Model_combine, by decide +kernel, tq11 179 rfl rfl, tq11 180 rfl rfl⟩
abbrev m_Model_scrap : MD := (⟨"RowForgeModel", "scrap", "()I"⟩, prog_13_method_80_code, 2, some (Jvm.ClassFile.FieldType.int), [])
theorem mo_Model_scrap : MOK m_Model_scrap := ⟨tq11 185 rfl rfl, rfl, kw_initialized_RowForgeModel, by decide, by decide⟩
theorem mv_Model_scrap : MV m_Model_scrap 0 := ⟨mo_Model_scrap, by decide +kernel, tq11 183 rfl rfl, tq11 184 rfl rfl⟩
abbrev m_Model_clears : MD := (⟨"RowForgeModel", "clears", "()V"⟩, prog_13_method_79_code, 1, none, [])
theorem mo_Model_clears : MOK m_Model_clears := ⟨tq11 189 rfl rfl, rfl, kw_initialized_RowForgeModel, by decide, by decide⟩
theorem mv_Model_clears : MV m_Model_clears 0 := ⟨mo_Model_clears, by decide +kernel, tq11 188 rfl rfl, tb 105 rfl rfl⟩
abbrev m_Model_query : MD := (⟨"RowForgeModel", "query", "()I"⟩, prog_13_method_82_code, 3, some (Jvm.ClassFile.FieldType.int), [])
theorem mo_Model_query : MOK m_Model_query := ⟨tq11 193 rfl rfl, rfl, kw_initialized_RowForgeModel, by decide, by decide⟩
theorem mv_Model_query : MV m_Model_query 0 := ⟨mo_Model_query, by decide +kernel, tq11 191 rfl rfl, tq11 192 rfl rfl⟩
abbrev m_Model_base : MD := (⟨"RowForgeModel", "base", "(I)I"⟩, prog_13_method_81_code, 1, some (Jvm.ClassFile.FieldType.int), [])
theorem mo_Model_base : MOK m_Model_base := ⟨tq11 196 rfl rfl, rfl, kw_initialized_RowForgeModel, by decide, by decide⟩
theorem ms_Model_base : MS m_Model_base 1 := ⟨mo_Model_base, by decide +kernel, tq11 195 rfl rfl⟩
abbrev m_Model_run : MD := (⟨"RowForgeModel", "run", "(II)I"⟩, prog_13_method_100_code, 6, some (Jvm.ClassFile.FieldType.int), [])
theorem mo_Model_run : MOK m_Model_run := ⟨tq11 200 rfl rfl, rfl, kw_initialized_RowForgeModel, by decide, by decide⟩
theorem mv_Model_run : MV m_Model_run 2 := ⟨mo_Model_run, by decide +kernel, tq11 198 rfl rfl, tq11 199 rfl rfl⟩
abbrev m_Model_isQuery : MD := (⟨"RowForgeModel", "isQuery", "(I)Z"⟩, prog_13_method_83_code, 2, some (Jvm.ClassFile.FieldType.boolean), [])
theorem mo_Model_isQuery : MOK m_Model_isQuery := ⟨tq11 204 rfl rfl, rfl, kw_initialized_RowForgeModel, by decide, by decide⟩
theorem mv_Model_isQuery : MV m_Model_isQuery 1 := ⟨mo_Model_isQuery, by decide +kernel, tq11 203 rfl rfl, tb 106 rfl rfl⟩
abbrev m_Model_finds : MD := (⟨"RowForgeModel", "finds", "(III)V"⟩, prog_13_method_98_code, 5, none, [])
theorem mo_Model_finds : MOK m_Model_finds := ⟨tq11 208 rfl rfl, rfl, kw_initialized_RowForgeModel, by decide, by decide⟩
theorem mv_Model_finds : MV m_Model_finds 3 := ⟨mo_Model_finds, by decide +kernel, tq11 207 rfl rfl, tb 107 rfl rfl⟩
abbrev m_Model_scans : MD := (⟨"RowForgeModel", "scans", "(III)V"⟩, prog_13_method_85_code, 7, none, [])
theorem mo_Model_scans : MOK m_Model_scans := ⟨tq11 212 rfl rfl, rfl, kw_initialized_RowForgeModel, by decide, by decide⟩
theorem mv_Model_scans : MV m_Model_scans 3 := ⟨mo_Model_scans, by decide +kernel, tq11 211 rfl rfl, tb 108 rfl rfl⟩
abbrev m_Model_top : MD := (⟨"RowForgeModel", "top", "()I"⟩, prog_13_method_84_code, 1, some (Jvm.ClassFile.FieldType.int), [])
theorem mo_Model_top : MOK m_Model_top := ⟨tq11 216 rfl rfl, rfl, kw_initialized_RowForgeModel, by decide, by decide⟩
theorem mv_Model_top : MV m_Model_top 0 := ⟨mo_Model_top, by decide +kernel, tq11 215 rfl rfl, tb 109 rfl rfl⟩
abbrev m_Model_filters : MD := (⟨"RowForgeModel", "filters", "(I)V"⟩, prog_13_method_87_code, 7, none, [])
theorem mo_Model_filters : MOK m_Model_filters := ⟨tq11 220 rfl rfl, rfl, kw_initialized_RowForgeModel, by decide, by decide⟩
theorem mv_Model_filters : MV m_Model_filters 1 := ⟨mo_Model_filters, by decide +kernel, tq11 219 rfl rfl, tb 110 rfl rfl⟩
abbrev m_Model_stays : MD := (⟨"RowForgeModel", "stays", "(II)Z"⟩, prog_13_method_86_code, 5, some (Jvm.ClassFile.FieldType.boolean), [])
theorem mo_Model_stays : MOK m_Model_stays := ⟨tq11 224 rfl rfl, rfl, kw_initialized_RowForgeModel, by decide, by decide⟩
theorem mv_Model_stays : MV m_Model_stays 2 := ⟨mo_Model_stays, by decide +kernel, tq11 223 rfl rfl, tb 111 rfl rfl⟩
abbrev m_Model_joins : MD := (⟨"RowForgeModel", "joins", "(I)V"⟩, prog_13_method_92_code, 14, none, [])
theorem mo_Model_joins : MOK m_Model_joins := ⟨tq11 228 rfl rfl, rfl, kw_initialized_RowForgeModel, by decide, by decide⟩
theorem mv_Model_joins : MV m_Model_joins 1 := ⟨mo_Model_joins, by decide +kernel, tq11 227 rfl rfl, tb 112 rfl rfl⟩
abbrev m_Model_lays : MD := (⟨"RowForgeModel", "lays", "(IIIII)V"⟩, prog_13_method_93_code, 7, none, [])
theorem mo_Model_lays : MOK m_Model_lays := ⟨tq11 232 rfl rfl, rfl, kw_initialized_RowForgeModel, by decide, by decide⟩
theorem mv_Model_lays : MV m_Model_lays 5 := ⟨mo_Model_lays, by decide +kernel, tq11 231 rfl rfl, tb 113 rfl rfl⟩
abbrev m_Model_takes : MD := (⟨"RowForgeModel", "takes", "(IIII)V"⟩, prog_13_method_89_code, 7, none, [])
theorem mo_Model_takes : MOK m_Model_takes := ⟨tq11 236 rfl rfl, rfl, kw_initialized_RowForgeModel, by decide, by decide⟩
theorem mv_Model_takes : MV m_Model_takes 4 := ⟨mo_Model_takes, by decide +kernel, tq11 235 rfl rfl, tb 114 rfl rfl⟩
abbrev m_Model_keeps : MD := (⟨"RowForgeModel", "keeps", "(I)V"⟩, prog_13_method_88_code, 7, none, [])
theorem mo_Model_keeps : MOK m_Model_keeps := ⟨tq12 0 rfl rfl, rfl, kw_initialized_RowForgeModel, by decide, by decide⟩
theorem mv_Model_keeps : MV m_Model_keeps 1 := ⟨mo_Model_keeps, by decide +kernel, tq11 239 rfl rfl, tb 115 rfl rfl⟩
abbrev m_Model_groups : MD := (⟨"RowForgeModel", "groups", "(I)V"⟩, prog_13_method_90_code, 10, none, [])
theorem mo_Model_groups : MOK m_Model_groups := ⟨tq12 4 rfl rfl, rfl, kw_initialized_RowForgeModel, by decide, by decide⟩
theorem mv_Model_groups : MV m_Model_groups 1 := ⟨mo_Model_groups, by decide +kernel, tq12 3 rfl rfl, tb 116 rfl rfl⟩
abbrev m_Model_gathered : MD := (⟨"RowForgeModel", "gathered", "(III)I"⟩, prog_13_method_91_code, 3, some (Jvm.ClassFile.FieldType.int), [])
theorem mo_Model_gathered : MOK m_Model_gathered := ⟨tq12 7 rfl rfl, rfl, kw_initialized_RowForgeModel, by decide, by decide⟩
theorem ms_Model_gathered : MS m_Model_gathered 3 := ⟨mo_Model_gathered, by decide +kernel, tq12 6 rfl rfl⟩
abbrev m_Model_least : MD := (⟨"RowForgeModel", "least", "(II)I"⟩, prog_13_method_6_code, 2, some (Jvm.ClassFile.FieldType.int), [])
theorem mo_Model_least : MOK m_Model_least := ⟨tq12 10 rfl rfl, rfl, kw_initialized_RowForgeModel, by decide, by decide⟩
theorem ms_Model_least : MS m_Model_least 2 := ⟨mo_Model_least, by decide +kernel, tq12 9 rfl rfl⟩
abbrev m_Model_combines : MD := (⟨"RowForgeModel", "combines", "(I)V"⟩, prog_13_method_95_code, 11, none, [])
theorem mo_Model_combines : MOK m_Model_combines := ⟨tq12 14 rfl rfl, rfl, kw_initialized_RowForgeModel, by decide, by decide⟩
theorem mv_Model_combines : MV m_Model_combines 1 := ⟨mo_Model_combines, by decide +kernel, tq12 13 rfl rfl, tb 117 rfl rfl⟩
abbrev m_Model_hasRow : MD := (⟨"RowForgeModel", "hasRow", "(IIII)Z"⟩, prog_13_method_94_code, 8, some (Jvm.ClassFile.FieldType.boolean), [])
theorem mo_Model_hasRow : MOK m_Model_hasRow := ⟨tq12 18 rfl rfl, rfl, kw_initialized_RowForgeModel, by decide, by decide⟩
theorem mv_Model_hasRow : MV m_Model_hasRow 4 := ⟨mo_Model_hasRow, by decide +kernel, tq12 17 rfl rfl, tb 118 rfl rfl⟩
abbrev m_Model_sorts : MD := (⟨"RowForgeModel", "sorts", "()V"⟩, prog_13_method_97_code, 8, none, [])
theorem mo_Model_sorts : MOK m_Model_sorts := ⟨tq12 22 rfl rfl, rfl, kw_initialized_RowForgeModel, by decide, by decide⟩
theorem mv_Model_sorts : MV m_Model_sorts 0 := ⟨mo_Model_sorts, by decide +kernel, tq12 21 rfl rfl, tb 119 rfl rfl⟩
abbrev m_Model_isAhead : MD := (⟨"RowForgeModel", "isAhead", "(III)Z"⟩, prog_13_method_96_code, 5, some (Jvm.ClassFile.FieldType.boolean), [])
theorem mo_Model_isAhead : MOK m_Model_isAhead := ⟨tq12 26 rfl rfl, rfl, kw_initialized_RowForgeModel, by decide, by decide⟩
theorem mv_Model_isAhead : MV m_Model_isAhead 3 := ⟨mo_Model_isAhead, by decide +kernel, tq12 25 rfl rfl, tb 120 rfl rfl⟩
abbrev m_Model_readsAll : MD := (⟨"RowForgeModel", "readsAll", "(II)V"⟩, prog_13_method_99_code, 6, none, [])
theorem mo_Model_readsAll : MOK m_Model_readsAll := ⟨tq12 30 rfl rfl, rfl, kw_initialized_RowForgeModel, by decide, by decide⟩
theorem mv_Model_readsAll : MV m_Model_readsAll 2 := ⟨mo_Model_readsAll, by decide +kernel, tq12 29 rfl rfl, tb 121 rfl rfl⟩
abbrev m_Model_at : MD := (⟨"RowForgeModel", "at", "(II)I"⟩, prog_13_method_101_code, 4, some (Jvm.ClassFile.FieldType.int), [])
theorem mo_Model_at : MOK m_Model_at := ⟨tq12 34 rfl rfl, rfl, kw_initialized_RowForgeModel, by decide, by decide⟩
theorem mv_Model_at : MV m_Model_at 2 := ⟨mo_Model_at, by decide +kernel, tq12 32 rfl rfl, tq12 33 rfl rfl⟩
abbrev m_Model_atByLoops : MD := (⟨"RowForgeModel", "atByLoops", "(IIII)I"⟩, prog_13_method_102_code, 8, some (Jvm.ClassFile.FieldType.int), [])
theorem mo_Model_atByLoops : MOK m_Model_atByLoops := ⟨tq12 38 rfl rfl, rfl, kw_initialized_RowForgeModel, by decide, by decide⟩
theorem mv_Model_atByLoops : MV m_Model_atByLoops 4 := ⟨mo_Model_atByLoops, by decide +kernel, tq12 36 rfl rfl, tq12 37 rfl rfl⟩
abbrev m_Model_analyze : MD := (⟨"RowForgeModel", "analyze", "()I"⟩, prog_13_method_103_code, 4, some (Jvm.ClassFile.FieldType.int), [])
theorem mo_Model_analyze : MOK m_Model_analyze := ⟨tq12 42 rfl rfl, rfl, kw_initialized_RowForgeModel, by decide, by decide⟩
theorem mv_Model_analyze : MV m_Model_analyze 0 := ⟨mo_Model_analyze, by decide +kernel, tq12 40 rfl rfl, tq12 41 rfl rfl⟩
abbrev m_Model_differing : MD := (⟨"RowForgeModel", "differing", "(II)I"⟩, prog_13_method_104_code, 8, some (Jvm.ClassFile.FieldType.int), [])
theorem mo_Model_differing : MOK m_Model_differing := ⟨tq12 46 rfl rfl, rfl, kw_initialized_RowForgeModel, by decide, by decide⟩
theorem mv_Model_differing : MV m_Model_differing 2 := ⟨mo_Model_differing, by decide +kernel, tq12 45 rfl rfl, tb 122 rfl rfl⟩
abbrev m_Model_prepare : MD := (⟨"RowForgeModel", "prepare", "(I)I"⟩, prog_13_method_117_code, 8, some (Jvm.ClassFile.FieldType.int), [])
theorem mo_Model_prepare : MOK m_Model_prepare := ⟨tq12 50 rfl rfl, rfl, kw_initialized_RowForgeModel, by decide, by decide⟩
theorem mv_Model_prepare : MV m_Model_prepare 1 := ⟨mo_Model_prepare, by decide +kernel, tq12 48 rfl rfl, tq12 49 rfl rfl⟩
abbrev m_Model_findsNodes : MD := (⟨"RowForgeModel", "findsNodes", "(I)V"⟩, prog_13_method_105_code, 6, none, [])
theorem mo_Model_findsNodes : MOK m_Model_findsNodes := ⟨tq12 54 rfl rfl, rfl, kw_initialized_RowForgeModel, by decide, by decide⟩
theorem mv_Model_findsNodes : MV m_Model_findsNodes 1 := ⟨mo_Model_findsNodes, by decide +kernel, tq12 53 rfl rfl, tb 123 rfl rfl⟩
abbrev m_Model_firstJoin : MD := (⟨"RowForgeModel", "firstJoin", "(I)I"⟩, prog_13_method_108_code, 4, some (Jvm.ClassFile.FieldType.int), [])
theorem mo_Model_firstJoin : MOK m_Model_firstJoin := ⟨tq12 58 rfl rfl, rfl, kw_initialized_RowForgeModel, by decide, by decide⟩
theorem mv_Model_firstJoin : MV m_Model_firstJoin 1 := ⟨mo_Model_firstJoin, by decide +kernel, tq12 57 rfl rfl, tb 124 rfl rfl⟩
abbrev m_Model_isFilter : MD := (⟨"RowForgeModel", "isFilter", "(I)Z"⟩, prog_13_method_107_code, 1, some (Jvm.ClassFile.FieldType.boolean), [])
theorem mo_Model_isFilter : MOK m_Model_isFilter := ⟨tq12 61 rfl rfl, rfl, kw_initialized_RowForgeModel, by decide, by decide⟩
theorem ms_Model_isFilter : MS m_Model_isFilter 1 := ⟨mo_Model_isFilter, by decide +kernel, tq12 60 rfl rfl⟩
abbrev m_Model_isInner : MD := (⟨"RowForgeModel", "isInner", "(II)Z"⟩, prog_13_method_106_code, 3, some (Jvm.ClassFile.FieldType.boolean), [])
theorem mo_Model_isInner : MOK m_Model_isInner := ⟨tq12 65 rfl rfl, rfl, kw_initialized_RowForgeModel, by decide, by decide⟩
theorem mv_Model_isInner : MV m_Model_isInner 2 := ⟨mo_Model_isInner, by decide +kernel, tq12 64 rfl rfl, tb 125 rfl rfl⟩
abbrev m_Model_findsBlock : MD := (⟨"RowForgeModel", "findsBlock", "(II)V"⟩, prog_13_method_110_code, 6, none, [])
theorem mo_Model_findsBlock : MOK m_Model_findsBlock := ⟨tq12 69 rfl rfl, rfl, kw_initialized_RowForgeModel, by decide, by decide⟩
theorem mv_Model_findsBlock : MV m_Model_findsBlock 2 := ⟨mo_Model_findsBlock, by decide +kernel, tq12 68 rfl rfl, tb 126 rfl rfl⟩
abbrev m_Model_passes : MD := (⟨"RowForgeModel", "passes", "(II)V"⟩, prog_13_method_113_code, 9, none, [])
theorem mo_Model_passes : MOK m_Model_passes := ⟨tq12 74 rfl rfl, rfl, kw_initialized_RowForgeModel, by decide, by decide⟩
theorem mv_Model_passes : MV m_Model_passes 2 := ⟨mo_Model_passes, by decide +kernel, tq12 73 rfl rfl, tb 127 rfl rfl⟩
abbrev m_Model_leafOf : MD := (⟨"RowForgeModel", "leafOf", "(I)I"⟩, prog_13_method_109_code, 4, some (Jvm.ClassFile.FieldType.int), [])
theorem mo_Model_leafOf : MOK m_Model_leafOf := ⟨tq12 78 rfl rfl, rfl, kw_initialized_RowForgeModel, by decide, by decide⟩
theorem mv_Model_leafOf : MV m_Model_leafOf 1 := ⟨mo_Model_leafOf, by decide +kernel, tq12 77 rfl rfl, tb 128 rfl rfl⟩
abbrev m_Model_valuesOf : MD := (⟨"RowForgeModel", "valuesOf", "(II)I"⟩, prog_13_method_111_code, 5, some (Jvm.ClassFile.FieldType.int), [])
theorem mo_Model_valuesOf : MOK m_Model_valuesOf := ⟨tq12 82 rfl rfl, rfl, kw_initialized_RowForgeModel, by decide, by decide⟩
theorem mv_Model_valuesOf : MV m_Model_valuesOf 2 := ⟨mo_Model_valuesOf, by decide +kernel, tq12 81 rfl rfl, tb 129 rfl rfl⟩
abbrev m_Model_divided : MD := (⟨"RowForgeModel", "divided", "(JI)J"⟩, prog_13_method_112_code, 5, some (Jvm.ClassFile.FieldType.long), [])
theorem mo_Model_divided : MOK m_Model_divided := ⟨tq12 85 rfl rfl, rfl, kw_initialized_RowForgeModel, by decide, by decide⟩
theorem ms_Model_divided : MS m_Model_divided 2 := ⟨mo_Model_divided, by decide +kernel, tq12 84 rfl rfl⟩
abbrev m_Model_orderAt : MD := (⟨"RowForgeModel", "orderAt", "(I)I"⟩, prog_13_method_116_code, 5, some (Jvm.ClassFile.FieldType.int), [])
theorem mo_Model_orderAt : MOK m_Model_orderAt := ⟨tq12 90 rfl rfl, rfl, kw_initialized_RowForgeModel, by decide, by decide⟩
theorem mv_Model_orderAt : MV m_Model_orderAt 1 := ⟨mo_Model_orderAt, by decide +kernel, tq12 89 rfl rfl, tb 130 rfl rfl⟩
abbrev m_Model_isOrder : MD := (⟨"RowForgeModel", "isOrder", "(I)Z"⟩, prog_13_method_115_code, 4, some (Jvm.ClassFile.FieldType.boolean), [])
theorem mo_Model_isOrder : MOK m_Model_isOrder := ⟨tq12 94 rfl rfl, rfl, kw_initialized_RowForgeModel, by decide, by decide⟩
theorem mv_Model_isOrder : MV m_Model_isOrder 1 := ⟨mo_Model_isOrder, by decide +kernel, tq12 93 rfl rfl, tb 131 rfl rfl⟩
abbrev m_Model_costOf : MD := (⟨"RowForgeModel", "costOf", "(II)J"⟩, prog_13_method_114_code, 16, some (Jvm.ClassFile.FieldType.long), [])
theorem mo_Model_costOf : MOK m_Model_costOf := ⟨tq12 98 rfl rfl, rfl, kw_initialized_RowForgeModel, by decide, by decide⟩
theorem mv_Model_costOf : MV m_Model_costOf 2 := ⟨mo_Model_costOf, by decide +kernel, tq12 97 rfl rfl, tb 132 rfl rfl⟩
abbrev m_Model_planAt : MD := (⟨"RowForgeModel", "planAt", "(II)I"⟩, prog_13_method_118_code, 3, some (Jvm.ClassFile.FieldType.int), [])
theorem mo_Model_planAt : MOK m_Model_planAt := ⟨tq12 102 rfl rfl, rfl, kw_initialized_RowForgeModel, by decide, by decide⟩
theorem mv_Model_planAt : MV m_Model_planAt 2 := ⟨mo_Model_planAt, by decide +kernel, tq12 100 rfl rfl, tq12 101 rfl rfl⟩
abbrev m_Model_planned : MD := (⟨"RowForgeModel", "planned", "()I"⟩, prog_13_method_119_code, 1, some (Jvm.ClassFile.FieldType.int), [])
theorem mo_Model_planned : MOK m_Model_planned := ⟨tq12 106 rfl rfl, rfl, kw_initialized_RowForgeModel, by decide, by decide⟩
theorem mv_Model_planned : MV m_Model_planned 0 := ⟨mo_Model_planned, by decide +kernel, tq12 104 rfl rfl, tq12 105 rfl rfl⟩
abbrev m_Model_tells : MD := (⟨"RowForgeModel", "tells", "(I)I"⟩, prog_13_method_4_code, 2, some (Jvm.ClassFile.FieldType.int), [])
theorem mo_Model_tells : MOK m_Model_tells := ⟨tq12 110 rfl rfl, rfl, kw_initialized_RowForgeModel, by decide, by decide⟩
theorem mv_Model_tells : MV m_Model_tells 1 := ⟨mo_Model_tells, by decide +kernel, tq12 109 rfl rfl, tb 133 rfl rfl⟩
abbrev m_Model_view : MD := (⟨"RowForgeModel", "view", "(I)I"⟩, prog_13_method_121_code, 3, some (Jvm.ClassFile.FieldType.int), [])
theorem mo_Model_view : MOK m_Model_view := ⟨tq12 114 rfl rfl, rfl, kw_initialized_RowForgeModel, by decide, by decide⟩
theorem mv_Model_view : MV m_Model_view 1 := ⟨mo_Model_view, by decide +kernel, tq12 112 rfl rfl, tq12 113 rfl rfl⟩
abbrev m_Model_canBeView : MD := (⟨"RowForgeModel", "canBeView", "(I)Z"⟩, prog_13_method_120_code, 7, some (Jvm.ClassFile.FieldType.boolean), [])
theorem mo_Model_canBeView : MOK m_Model_canBeView := ⟨tq12 118 rfl rfl, rfl, kw_initialized_RowForgeModel, by decide, by decide⟩
theorem mv_Model_canBeView : MV m_Model_canBeView 1 := ⟨mo_Model_canBeView, by decide +kernel, tq12 117 rfl rfl, tb 134 rfl rfl⟩
abbrev m_Model_viewRows : MD := (⟨"RowForgeModel", "viewRows", "(I)I"⟩, prog_13_method_123_code, 2, some (Jvm.ClassFile.FieldType.int), [])
theorem mo_Model_viewRows : MOK m_Model_viewRows := ⟨tq12 122 rfl rfl, rfl, kw_initialized_RowForgeModel, by decide, by decide⟩
theorem mv_Model_viewRows : MV m_Model_viewRows 1 := ⟨mo_Model_viewRows, by decide +kernel, tq12 120 rfl rfl, tq12 121 rfl rfl⟩
abbrev m_Model_isView : MD := (⟨"RowForgeModel", "isView", "(I)Z"⟩, prog_13_method_122_code, 2, some (Jvm.ClassFile.FieldType.boolean), [])
theorem mo_Model_isView : MOK m_Model_isView := ⟨tq12 126 rfl rfl, rfl, kw_initialized_RowForgeModel, by decide, by decide⟩
theorem mv_Model_isView : MV m_Model_isView 1 := ⟨mo_Model_isView, by decide +kernel, tq12 125 rfl rfl, tb 135 rfl rfl⟩
abbrev m_Model_viewAt : MD := (⟨"RowForgeModel", "viewAt", "(III)I"⟩, prog_13_method_125_code, 4, some (Jvm.ClassFile.FieldType.int), [])
theorem mo_Model_viewAt : MOK m_Model_viewAt := ⟨tq12 130 rfl rfl, rfl, kw_initialized_RowForgeModel, by decide, by decide⟩
theorem mv_Model_viewAt : MV m_Model_viewAt 3 := ⟨mo_Model_viewAt, by decide +kernel, tq12 128 rfl rfl, tq12 129 rfl rfl⟩
abbrev m_Model_viewed : MD := (⟨"RowForgeModel", "viewed", "(III)I"⟩, prog_13_method_124_code, 6, some (Jvm.ClassFile.FieldType.int), [])
theorem mo_Model_viewed : MOK m_Model_viewed := ⟨tq12 134 rfl rfl, rfl, kw_initialized_RowForgeModel, by decide, by decide⟩
theorem mv_Model_viewed : MV m_Model_viewed 3 := ⟨mo_Model_viewed, by decide +kernel, tq12 133 rfl rfl, tb 136 rfl rfl⟩
abbrev m_Model_viewAnew : MD := (⟨"RowForgeModel", "viewAnew", "(III)I"⟩, prog_13_method_126_code, 4, some (Jvm.ClassFile.FieldType.int), [])
theorem mo_Model_viewAnew : MOK m_Model_viewAnew := ⟨tq12 138 rfl rfl, rfl, kw_initialized_RowForgeModel, by decide, by decide⟩
theorem mv_Model_viewAnew : MV m_Model_viewAnew 3 := ⟨mo_Model_viewAnew, by decide +kernel, tq12 136 rfl rfl, tq12 137 rfl rfl⟩
abbrev m_Model_checkpoint : MD := (⟨"RowForgeModel", "checkpoint", "()I"⟩, prog_13_method_127_code, 1, some (Jvm.ClassFile.FieldType.int), [])
theorem mo_Model_checkpoint : MOK m_Model_checkpoint := ⟨tq12 142 rfl rfl, rfl, kw_initialized_RowForgeModel, by decide, by decide⟩
theorem mv_Model_checkpoint : MV m_Model_checkpoint 0 := ⟨mo_Model_checkpoint, by decide +kernel, tq12 140 rfl rfl, tq12 141 rfl rfl⟩
abbrev m_Model_crash : MD := (⟨"RowForgeModel", "crash", "(I)I"⟩, prog_13_method_130_code, 4, some (Jvm.ClassFile.FieldType.int), [])
theorem mo_Model_crash : MOK m_Model_crash := ⟨tq12 146 rfl rfl, rfl, kw_initialized_RowForgeModel, by decide, by decide⟩
theorem mv_Model_crash : MV m_Model_crash 1 := ⟨mo_Model_crash, by decide +kernel, tq12 144 rfl rfl, tq12 145 rfl rfl⟩
abbrev m_Model_hasRecord : MD := (⟨"RowForgeModel", "hasRecord", "(II)Z"⟩, prog_13_method_128_code, 5, some (Jvm.ClassFile.FieldType.boolean), [])
theorem mo_Model_hasRecord : MOK m_Model_hasRecord := ⟨tq12 150 rfl rfl, rfl, kw_initialized_RowForgeModel, by decide, by decide⟩
theorem mv_Model_hasRecord : MV m_Model_hasRecord 2 := ⟨mo_Model_hasRecord, by decide +kernel, tq12 149 rfl rfl, tb 137 rfl rfl⟩
abbrev m_Model_undoes : MD := (⟨"RowForgeModel", "undoes", "(I)I"⟩, prog_13_method_129_code, 6, some (Jvm.ClassFile.FieldType.int), [])
theorem mo_Model_undoes : MOK m_Model_undoes := ⟨tq12 154 rfl rfl, rfl, kw_initialized_RowForgeModel, by decide, by decide⟩
theorem mv_Model_undoes : MV m_Model_undoes 1 := ⟨mo_Model_undoes, by decide +kernel, tq12 153 rfl rfl, tb 138 rfl rfl⟩
abbrev m_Model_records : MD := (⟨"RowForgeModel", "records", "()I"⟩, prog_13_method_131_code, 1, some (Jvm.ClassFile.FieldType.int), [])
theorem mo_Model_records : MOK m_Model_records := ⟨tq12 158 rfl rfl, rfl, kw_initialized_RowForgeModel, by decide, by decide⟩
theorem mv_Model_records : MV m_Model_records 0 := ⟨mo_Model_records, by decide +kernel, tq12 156 rfl rfl, tq12 157 rfl rfl⟩
abbrev m_Model_flushed : MD := (⟨"RowForgeModel", "flushed", "()I"⟩, prog_13_method_132_code, 1, some (Jvm.ClassFile.FieldType.int), [])
theorem mo_Model_flushed : MOK m_Model_flushed := ⟨tq12 162 rfl rfl, rfl, kw_initialized_RowForgeModel, by decide, by decide⟩
theorem mv_Model_flushed : MV m_Model_flushed 0 := ⟨mo_Model_flushed, by decide +kernel, tq12 160 rfl rfl, tq12 161 rfl rfl⟩
abbrev m_Model_recordKind : MD := (⟨"RowForgeModel", "recordKind", "(I)I"⟩, prog_13_method_134_code, 2, some (Jvm.ClassFile.FieldType.int), [])
theorem mo_Model_recordKind : MOK m_Model_recordKind := ⟨tq12 166 rfl rfl, rfl, kw_initialized_RowForgeModel, by decide, by decide⟩
theorem mv_Model_recordKind : MV m_Model_recordKind 1 := ⟨mo_Model_recordKind, by decide +kernel, tq12 164 rfl rfl, tq12 165 rfl rfl⟩
abbrev m_Model_isRecord : MD := (⟨"RowForgeModel", "isRecord", "(I)Z"⟩, prog_13_method_133_code, 2, some (Jvm.ClassFile.FieldType.boolean), [])
theorem mo_Model_isRecord : MOK m_Model_isRecord := ⟨tq12 170 rfl rfl, rfl, kw_initialized_RowForgeModel, by decide, by decide⟩
theorem mv_Model_isRecord : MV m_Model_isRecord 1 := ⟨mo_Model_isRecord, by decide +kernel, tq12 169 rfl rfl, tb 139 rfl rfl⟩
abbrev m_Model_recordOf : MD := (⟨"RowForgeModel", "recordOf", "(I)I"⟩, prog_13_method_135_code, 2, some (Jvm.ClassFile.FieldType.int), [])
theorem mo_Model_recordOf : MOK m_Model_recordOf := ⟨tq12 174 rfl rfl, rfl, kw_initialized_RowForgeModel, by decide, by decide⟩
theorem mv_Model_recordOf : MV m_Model_recordOf 1 := ⟨mo_Model_recordOf, by decide +kernel, tq12 172 rfl rfl, tq12 173 rfl rfl⟩
abbrev m_Model_recordAt : MD := (⟨"RowForgeModel", "recordAt", "(IZ)I"⟩, prog_13_method_136_code, 3, some (Jvm.ClassFile.FieldType.int), [])
theorem mo_Model_recordAt : MOK m_Model_recordAt := ⟨tq12 178 rfl rfl, rfl, kw_initialized_RowForgeModel, by decide, by decide⟩
theorem mv_Model_recordAt : MV m_Model_recordAt 2 := ⟨mo_Model_recordAt, by decide +kernel, tq12 176 rfl rfl, tq12 177 rfl rfl⟩
