section
variable {K : KT} {P : PT} {J I : IT}
def kSchema (K : KT) : KT := (upK (upK (upK (upK (upK (upK K 1034 (100, 6)) 1035 (100, 6)) 1036 (100, 72)) 1037 (100, 24)) 1038 (100, 24)) 1040 (100, 60))
def pSchema (P : PT) : PT := (up2 (up2 (up2 (up2 (up2 (up2 P 1032 1 (some 1034)) 1032 2 (some 1035)) 1032 3 (some 1036)) 1032 4 (some 1037)) 1032 5 (some 1038)) 1032 7 (some 1040))
theorem sp_Schema_init (h0 : K 1032 = some (7, 0)) (hf : ∀ j, 1032 < j → j < 1064 → K j = none) : Sp m_Schema_init false ({ frames := 1, cells := 6, slots := 192, locals := 40 } : Room) (ex (kSchema K) (pSchema P) J (filI I 1037 0 24 (-1)) (.inl none)) K P J I [vR (some 1032)] := by
  refine Sp.ofV (by decide) (Or.inr rfl) rfl ?_
  refine VW.aload_n (pc' := 1) d_Schema_init_0 rfl rfl ?_
  refine VW.objI (pc' := 4) d_Schema_init_1 rfl lk_Schema_3 rfl rfl rfl ?_
  refine VW.aload_n (pc' := 5) d_Schema_init_4 rfl rfl ?_
  refine VW.bipush (pc' := 7) d_Schema_init_5 rfl (by decide) ?_
  refine VW.newI 1034 (N := 6) (pc' := 9) d_Schema_init_7 rfl kw_arrayClass_int rfl (by decide) (hf 1034 (by decide) (by decide)) (by decide) (by decide) ?_
  refine VW.pPF (ci := 7) (T := T7) (N := 8) (k := 1) (k' := 1) (ty := ty7) (pc' := 12) d_Schema_init_9 rfl lk_Schema_9 in7 tk7 nm7 rfl rfl rfl rfl rfl rfl rfl (by first | exact Or.inl ⟨_, rfl⟩ | exact Or.inr ⟨_, rfl⟩) (by first | exact h0 ) ?_
  refine VW.aload_n (pc' := 13) d_Schema_init_12 rfl rfl ?_
  refine VW.bipush (pc' := 15) d_Schema_init_13 rfl (by decide) ?_
  refine VW.newI 1035 (N := 6) (pc' := 17) d_Schema_init_15 rfl kw_arrayClass_int rfl (by decide) (hf 1035 (by decide) (by decide)) (by decide) (by decide) ?_
  refine VW.pPF (ci := 7) (T := T7) (N := 8) (k := 2) (k' := 2) (ty := ty7) (pc' := 20) d_Schema_init_17 rfl lk_Schema_15 in7 tk7 nm7 rfl rfl rfl rfl rfl rfl rfl (by first | exact Or.inl ⟨_, rfl⟩ | exact Or.inr ⟨_, rfl⟩) (by first | exact h0 ) ?_
  refine VW.aload_n (pc' := 21) d_Schema_init_20 rfl rfl ?_
  refine VW.bipush (pc' := 23) d_Schema_init_21 rfl (by decide) ?_
  refine VW.newI 1036 (N := 72) (pc' := 25) d_Schema_init_23 rfl kw_arrayClass_int rfl (by decide) (hf 1036 (by decide) (by decide)) (by decide) (by decide) ?_
  refine VW.pPF (ci := 7) (T := T7) (N := 8) (k := 3) (k' := 3) (ty := ty7) (pc' := 28) d_Schema_init_25 rfl lk_Schema_18 in7 tk7 nm7 rfl rfl rfl rfl rfl rfl rfl (by first | exact Or.inl ⟨_, rfl⟩ | exact Or.inr ⟨_, rfl⟩) (by first | exact h0 ) ?_
  refine VW.aload_n (pc' := 29) d_Schema_init_28 rfl rfl ?_
  refine VW.bipush (pc' := 31) d_Schema_init_29 rfl (by decide) ?_
  refine VW.newI 1037 (N := 24) (pc' := 33) d_Schema_init_31 rfl kw_arrayClass_int rfl (by decide) (hf 1037 (by decide) (by decide)) (by decide) (by decide) ?_
  refine VW.pPF (ci := 7) (T := T7) (N := 8) (k := 4) (k' := 4) (ty := ty7) (pc' := 36) d_Schema_init_33 rfl lk_Schema_21 in7 tk7 nm7 rfl rfl rfl rfl rfl rfl rfl (by first | exact Or.inl ⟨_, rfl⟩ | exact Or.inr ⟨_, rfl⟩) (by first | exact h0 ) ?_
  refine VW.aload_n (pc' := 37) d_Schema_init_36 rfl rfl ?_
  refine VW.bipush (pc' := 39) d_Schema_init_37 rfl (by decide) ?_
  refine VW.newI 1038 (N := 24) (pc' := 41) d_Schema_init_39 rfl kw_arrayClass_int rfl (by decide) (hf 1038 (by decide) (by decide)) (by decide) (by decide) ?_
  refine VW.pPF (ci := 7) (T := T7) (N := 8) (k := 5) (k' := 5) (ty := ty7) (pc' := 44) d_Schema_init_41 rfl lk_Schema_24 in7 tk7 nm7 rfl rfl rfl rfl rfl rfl rfl (by first | exact Or.inl ⟨_, rfl⟩ | exact Or.inr ⟨_, rfl⟩) (by first | exact h0 ) ?_
  refine VW.aload_n (pc' := 45) d_Schema_init_44 rfl rfl ?_
  refine VW.bipush (pc' := 47) d_Schema_init_45 rfl (by decide) ?_
  refine VW.newI 1040 (N := 60) (pc' := 49) d_Schema_init_47 rfl kw_arrayClass_int rfl (by decide) (hf 1040 (by decide) (by decide)) (by decide) (by decide) ?_
  refine VW.pPF (ci := 7) (T := T7) (N := 8) (k := 7) (k' := 7) (ty := ty7) (pc' := 52) d_Schema_init_49 rfl lk_Schema_27 in7 tk7 nm7 rfl rfl rfl rfl rfl rfl rfl (by first | exact Or.inl ⟨_, rfl⟩ | exact Or.inr ⟨_, rfl⟩) (by first | exact h0 ) ?_
  refine VW.aload_n (pc' := 53) d_Schema_init_52 rfl rfl ?_
  refine VW.gP (ci := 7) (T := T7) (N := 8) (k := 4) (k' := 4) (pc' := 56) d_Schema_init_53 rfl lk_Schema_21 in7 rfl rfl rfl rfl (by first | exact h0 ) (rfl) ?_
  refine VW.iconst (pc' := 57) d_Schema_init_56 rfl (by decide) ?_
  refine VW.cS (pc' := 60) d_Schema_init_57 rfl ms_java_util_Arrays_fill lk_Schema_30 rfl rfl rfl (by decide) (by decide) (sp_fill rfl (by decide)) rfl rfl ?_
  exact VW.vret d_Schema_init_60 rfl (by decide) (by decide) ex_rf
def kLog (K : KT) : KT := (upK (upK (upK K 12000 (100, 512)) 1196 (101, 60)) 1197 (101, 60))
def pLog (P : PT) : PT := (up2 (up2 (up2 P 1192 2 (some 12000)) 1192 3 (some 1196)) 1192 4 (some 1197))
theorem sp_Log_init (h0 : K 1192 = some (2, 0)) (hf : ∀ j, 1192 < j → j < 1224 → K j = none) (hd : K 12000 = none) : Sp m_Log_init false ({ frames := 1, cells := 3, slots := 632, locals := 40 } : Room) (ex (kLog K) (pLog P) J (I) (.inl none)) K P J I [vR (some 1192)] := by
  refine Sp.ofV (by decide) (Or.inr rfl) rfl ?_
  refine VW.aload_n (pc' := 1) d_Log_init_0 rfl rfl ?_
  refine VW.objI (pc' := 4) d_Log_init_1 rfl lk_Log_5 rfl rfl rfl ?_
  refine VW.aload_n (pc' := 5) d_Log_init_4 rfl rfl ?_
  refine VW.sipush (pc' := 8) d_Log_init_5 rfl (by decide) ?_
  refine VW.newI 12000 (N := 512) (pc' := 10) d_Log_init_8 rfl kw_arrayClass_int rfl (by decide) (hd) (by decide) (by decide) ?_
  refine VW.pP (ci := 2) (T := T2) (N := 5) (k := 2) (k' := 2) (ty := ty2) (pc' := 13) d_Log_init_10 rfl lk_Log_11 in2 tk2 nm2 rfl rfl rfl rfl rfl (by first | exact Or.inl ⟨_, rfl⟩ | exact Or.inr ⟨_, rfl⟩) (by first | exact h0 ) ?_
  refine VW.aload_n (pc' := 14) d_Log_init_13 rfl rfl ?_
  refine VW.bipush (pc' := 16) d_Log_init_14 rfl (by decide) ?_
  refine VW.newZ 1196 (N := 60) (pc' := 18) d_Log_init_16 rfl kw_arrayClass_boolean rfl (by decide) (hf 1196 (by decide) (by decide)) (by decide) (by decide) ?_
  refine VW.pPF (ci := 2) (T := T2) (N := 5) (k := 3) (k' := 3) (ty := ty2) (pc' := 21) d_Log_init_18 rfl lk_Log_15 in2 tk2 nm2 rfl rfl rfl rfl rfl rfl rfl (by first | exact Or.inl ⟨_, rfl⟩ | exact Or.inr ⟨_, rfl⟩) (by first | exact h0 ) ?_
  refine VW.aload_n (pc' := 22) d_Log_init_21 rfl rfl ?_
  refine VW.bipush (pc' := 24) d_Log_init_22 rfl (by decide) ?_
  refine VW.newZ 1197 (N := 60) (pc' := 26) d_Log_init_24 rfl kw_arrayClass_boolean rfl (by decide) (hf 1197 (by decide) (by decide)) (by decide) (by decide) ?_
  refine VW.pPF (ci := 2) (T := T2) (N := 5) (k := 4) (k' := 4) (ty := ty2) (pc' := 29) d_Log_init_26 rfl lk_Log_19 in2 tk2 nm2 rfl rfl rfl rfl rfl rfl rfl (by first | exact Or.inl ⟨_, rfl⟩ | exact Or.inr ⟨_, rfl⟩) (by first | exact h0 ) ?_
  exact VW.vret d_Log_init_29 rfl (by decide) (by decide) ex_rf
def kPlanner (K : KT) : KT := (upK (upK (upK (upK (upK (upK (upK (upK (upK (upK (upK K 1385 (100, 6)) 1386 (100, 24)) 1387 (101, 12)) 1388 (100, 12)) 1390 (100, 3)) 1391 (101, 3)) 1392 (100, 10)) 1393 (100, 10)) 1395 (100, 12)) 1396 (100, 12)) 1397 (100, 3))
def pPlanner (P : PT) : PT := (up2 (up2 (up2 (up2 (up2 (up2 (up2 (up2 (up2 (up2 (up2 P 1384 0 (some 1385)) 1384 1 (some 1386)) 1384 2 (some 1387)) 1384 3 (some 1388)) 1384 5 (some 1390)) 1384 6 (some 1391)) 1384 7 (some 1392)) 1384 8 (some 1393)) 1384 10 (some 1395)) 1384 11 (some 1396)) 1384 12 (some 1397))
theorem sp_Planner_init (h0 : K 1384 = some (3, 0)) (hf : ∀ j, 1384 < j → j < 1416 → K j = none) : Sp m_Planner_init false ({ frames := 1, cells := 11, slots := 107, locals := 40 } : Room) (ex (kPlanner K) (pPlanner P) J (I) (.inl none)) K P J I [vR (some 1384)] := by
  refine Sp.ofV (by decide) (Or.inr rfl) rfl ?_
  refine VW.aload_n (pc' := 1) d_Planner_init_0 rfl rfl ?_
  refine VW.objI (pc' := 4) d_Planner_init_1 rfl lk_Planner_3 rfl rfl rfl ?_
  refine VW.aload_n (pc' := 5) d_Planner_init_4 rfl rfl ?_
  refine VW.bipush (pc' := 7) d_Planner_init_5 rfl (by decide) ?_
  refine VW.newI 1385 (N := 6) (pc' := 9) d_Planner_init_7 rfl kw_arrayClass_int rfl (by decide) (hf 1385 (by decide) (by decide)) (by decide) (by decide) ?_
  refine VW.pPF (ci := 3) (T := T3) (N := 14) (k := 0) (k' := 0) (ty := ty3) (pc' := 12) d_Planner_init_9 rfl lk_Planner_9 in3 tk3 nm3 rfl rfl rfl rfl rfl rfl rfl (by first | exact Or.inl ⟨_, rfl⟩ | exact Or.inr ⟨_, rfl⟩) (by first | exact h0 ) ?_
  refine VW.aload_n (pc' := 13) d_Planner_init_12 rfl rfl ?_
  refine VW.bipush (pc' := 15) d_Planner_init_13 rfl (by decide) ?_
  refine VW.newI 1386 (N := 24) (pc' := 17) d_Planner_init_15 rfl kw_arrayClass_int rfl (by decide) (hf 1386 (by decide) (by decide)) (by decide) (by decide) ?_
  refine VW.pPF (ci := 3) (T := T3) (N := 14) (k := 1) (k' := 1) (ty := ty3) (pc' := 20) d_Planner_init_17 rfl lk_Planner_15 in3 tk3 nm3 rfl rfl rfl rfl rfl rfl rfl (by first | exact Or.inl ⟨_, rfl⟩ | exact Or.inr ⟨_, rfl⟩) (by first | exact h0 ) ?_
  refine VW.aload_n (pc' := 21) d_Planner_init_20 rfl rfl ?_
  refine VW.bipush (pc' := 23) d_Planner_init_21 rfl (by decide) ?_
  refine VW.newZ 1387 (N := 12) (pc' := 25) d_Planner_init_23 rfl kw_arrayClass_boolean rfl (by decide) (hf 1387 (by decide) (by decide)) (by decide) (by decide) ?_
  refine VW.pPF (ci := 3) (T := T3) (N := 14) (k := 2) (k' := 2) (ty := ty3) (pc' := 28) d_Planner_init_25 rfl lk_Planner_18 in3 tk3 nm3 rfl rfl rfl rfl rfl rfl rfl (by first | exact Or.inl ⟨_, rfl⟩ | exact Or.inr ⟨_, rfl⟩) (by first | exact h0 ) ?_
  refine VW.aload_n (pc' := 29) d_Planner_init_28 rfl rfl ?_
  refine VW.bipush (pc' := 31) d_Planner_init_29 rfl (by decide) ?_
  refine VW.newI 1388 (N := 12) (pc' := 33) d_Planner_init_31 rfl kw_arrayClass_int rfl (by decide) (hf 1388 (by decide) (by decide)) (by decide) (by decide) ?_
  refine VW.pPF (ci := 3) (T := T3) (N := 14) (k := 3) (k' := 3) (ty := ty3) (pc' := 36) d_Planner_init_33 rfl lk_Planner_22 in3 tk3 nm3 rfl rfl rfl rfl rfl rfl rfl (by first | exact Or.inl ⟨_, rfl⟩ | exact Or.inr ⟨_, rfl⟩) (by first | exact h0 ) ?_
  refine VW.aload_n (pc' := 37) d_Planner_init_36 rfl rfl ?_
  refine VW.iconst (pc' := 38) d_Planner_init_37 rfl (by decide) ?_
  refine VW.newI 1390 (N := 3) (pc' := 40) d_Planner_init_38 rfl kw_arrayClass_int rfl (by decide) (hf 1390 (by decide) (by decide)) (by decide) (by decide) ?_
  refine VW.pPF (ci := 3) (T := T3) (N := 14) (k := 5) (k' := 5) (ty := ty3) (pc' := 43) d_Planner_init_40 rfl lk_Planner_25 in3 tk3 nm3 rfl rfl rfl rfl rfl rfl rfl (by first | exact Or.inl ⟨_, rfl⟩ | exact Or.inr ⟨_, rfl⟩) (by first | exact h0 ) ?_
  refine VW.aload_n (pc' := 44) d_Planner_init_43 rfl rfl ?_
  refine VW.iconst (pc' := 45) d_Planner_init_44 rfl (by decide) ?_
  refine VW.newZ 1391 (N := 3) (pc' := 47) d_Planner_init_45 rfl kw_arrayClass_boolean rfl (by decide) (hf 1391 (by decide) (by decide)) (by decide) (by decide) ?_
  refine VW.pPF (ci := 3) (T := T3) (N := 14) (k := 6) (k' := 6) (ty := ty3) (pc' := 50) d_Planner_init_47 rfl lk_Planner_28 in3 tk3 nm3 rfl rfl rfl rfl rfl rfl rfl (by first | exact Or.inl ⟨_, rfl⟩ | exact Or.inr ⟨_, rfl⟩) (by first | exact h0 ) ?_
  refine VW.aload_n (pc' := 51) d_Planner_init_50 rfl rfl ?_
  refine VW.bipush (pc' := 53) d_Planner_init_51 rfl (by decide) ?_
  refine VW.newI 1392 (N := 10) (pc' := 55) d_Planner_init_53 rfl kw_arrayClass_int rfl (by decide) (hf 1392 (by decide) (by decide)) (by decide) (by decide) ?_
  refine VW.pPF (ci := 3) (T := T3) (N := 14) (k := 7) (k' := 7) (ty := ty3) (pc' := 58) d_Planner_init_55 rfl lk_Planner_31 in3 tk3 nm3 rfl rfl rfl rfl rfl rfl rfl (by first | exact Or.inl ⟨_, rfl⟩ | exact Or.inr ⟨_, rfl⟩) (by first | exact h0 ) ?_
  refine VW.aload_n (pc' := 59) d_Planner_init_58 rfl rfl ?_
  refine VW.bipush (pc' := 61) d_Planner_init_59 rfl (by decide) ?_
  refine VW.newI 1393 (N := 10) (pc' := 63) d_Planner_init_61 rfl kw_arrayClass_int rfl (by decide) (hf 1393 (by decide) (by decide)) (by decide) (by decide) ?_
  refine VW.pPF (ci := 3) (T := T3) (N := 14) (k := 8) (k' := 8) (ty := ty3) (pc' := 66) d_Planner_init_63 rfl lk_Planner_34 in3 tk3 nm3 rfl rfl rfl rfl rfl rfl rfl (by first | exact Or.inl ⟨_, rfl⟩ | exact Or.inr ⟨_, rfl⟩) (by first | exact h0 ) ?_
  refine VW.aload_n (pc' := 67) d_Planner_init_66 rfl rfl ?_
  refine VW.bipush (pc' := 69) d_Planner_init_67 rfl (by decide) ?_
  refine VW.newI 1395 (N := 12) (pc' := 71) d_Planner_init_69 rfl kw_arrayClass_int rfl (by decide) (hf 1395 (by decide) (by decide)) (by decide) (by decide) ?_
  refine VW.pPF (ci := 3) (T := T3) (N := 14) (k := 10) (k' := 10) (ty := ty3) (pc' := 74) d_Planner_init_71 rfl lk_Planner_37 in3 tk3 nm3 rfl rfl rfl rfl rfl rfl rfl (by first | exact Or.inl ⟨_, rfl⟩ | exact Or.inr ⟨_, rfl⟩) (by first | exact h0 ) ?_
  refine VW.aload_n (pc' := 75) d_Planner_init_74 rfl rfl ?_
  refine VW.bipush (pc' := 77) d_Planner_init_75 rfl (by decide) ?_
  refine VW.newI 1396 (N := 12) (pc' := 79) d_Planner_init_77 rfl kw_arrayClass_int rfl (by decide) (hf 1396 (by decide) (by decide)) (by decide) (by decide) ?_
  refine VW.pPF (ci := 3) (T := T3) (N := 14) (k := 11) (k' := 11) (ty := ty3) (pc' := 82) d_Planner_init_79 rfl lk_Planner_40 in3 tk3 nm3 rfl rfl rfl rfl rfl rfl rfl (by first | exact Or.inl ⟨_, rfl⟩ | exact Or.inr ⟨_, rfl⟩) (by first | exact h0 ) ?_
  refine VW.aload_n (pc' := 83) d_Planner_init_82 rfl rfl ?_
  refine VW.iconst (pc' := 84) d_Planner_init_83 rfl (by decide) ?_
  refine VW.newI 1397 (N := 3) (pc' := 86) d_Planner_init_84 rfl kw_arrayClass_int rfl (by decide) (hf 1397 (by decide) (by decide)) (by decide) (by decide) ?_
  refine VW.pPF (ci := 3) (T := T3) (N := 14) (k := 12) (k' := 12) (ty := ty3) (pc' := 89) d_Planner_init_86 rfl lk_Planner_43 in3 tk3 nm3 rfl rfl rfl rfl rfl rfl rfl (by first | exact Or.inl ⟨_, rfl⟩ | exact Or.inr ⟨_, rfl⟩) (by first | exact h0 ) ?_
  exact VW.vret d_Planner_init_89 rfl (by decide) (by decide) ex_rf
end
