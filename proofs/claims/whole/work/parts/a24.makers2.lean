section
variable {K : KT} {P : PT} {J I : IT}
theorem df0 : ∀ k, k < 8 → defaultValue (ty0 k) = if isP 0 k then .null else .int 0 := by
  intro k hk
  match k, hk with
  | 0, _ => rfl
  | 1, _ => rfl
  | 2, _ => rfl
  | 3, _ => rfl
  | 4, _ => rfl
  | 5, _ => rfl
  | 6, _ => rfl
  | 7, _ => rfl
  | _ + 8, hk => exact absurd hk (by omega)
theorem df1 : ∀ k, k < 7 → defaultValue (ty1 k) = if isP 1 k then .null else .int 0 := by
  intro k hk
  match k, hk with
  | 0, _ => rfl
  | 1, _ => rfl
  | 2, _ => rfl
  | 3, _ => rfl
  | 4, _ => rfl
  | 5, _ => rfl
  | 6, _ => rfl
  | _ + 7, hk => exact absurd hk (by omega)
theorem df2 : ∀ k, k < 5 → defaultValue (ty2 k) = if isP 2 k then .null else .int 0 := by
  intro k hk
  match k, hk with
  | 0, _ => rfl
  | 1, _ => rfl
  | 2, _ => rfl
  | 3, _ => rfl
  | 4, _ => rfl
  | _ + 5, hk => exact absurd hk (by omega)
theorem df3 : ∀ k, k < 14 → defaultValue (ty3 k) = if isP 3 k then .null else .int 0 := by
  intro k hk
  match k, hk with
  | 0, _ => rfl
  | 1, _ => rfl
  | 2, _ => rfl
  | 3, _ => rfl
  | 4, _ => rfl
  | 5, _ => rfl
  | 6, _ => rfl
  | 7, _ => rfl
  | 8, _ => rfl
  | 9, _ => rfl
  | 10, _ => rfl
  | 11, _ => rfl
  | 12, _ => rfl
  | 13, _ => rfl
  | _ + 14, hk => exact absurd hk (by omega)
theorem df4 : ∀ k, k < 13 → defaultValue (ty4 k) = if isP 4 k then .null else .int 0 := by
  intro k hk
  match k, hk with
  | 0, _ => rfl
  | 1, _ => rfl
  | 2, _ => rfl
  | 3, _ => rfl
  | 4, _ => rfl
  | 5, _ => rfl
  | 6, _ => rfl
  | 7, _ => rfl
  | 8, _ => rfl
  | 9, _ => rfl
  | 10, _ => rfl
  | 11, _ => rfl
  | 12, _ => rfl
  | _ + 13, hk => exact absurd hk (by omega)
theorem df5 : ∀ k, k < 3 → defaultValue (ty5 k) = if isP 5 k then .null else .int 0 := by
  intro k hk
  match k, hk with
  | 0, _ => rfl
  | 1, _ => rfl
  | 2, _ => rfl
  | _ + 3, hk => exact absurd hk (by omega)
theorem df6 : ∀ k, k < 1 → defaultValue (ty6 k) = if isP 6 k then .null else .int 0 := by
  intro k hk
  match k, hk with
  | 0, _ => rfl
  | _ + 1, hk => exact absurd hk (by omega)
theorem df7 : ∀ k, k < 8 → defaultValue (ty7 k) = if isP 7 k then .null else .int 0 := by
  intro k hk
  match k, hk with
  | 0, _ => rfl
  | 1, _ => rfl
  | 2, _ => rfl
  | 3, _ => rfl
  | 4, _ => rfl
  | 5, _ => rfl
  | 6, _ => rfl
  | 7, _ => rfl
  | _ + 8, hk => exact absurd hk (by omega)
theorem df8 : ∀ k, k < 19 → defaultValue (ty8 k) = if isP 8 k then .null else .int 0 := by
  intro k hk
  match k, hk with
  | 0, _ => rfl
  | 1, _ => rfl
  | 2, _ => rfl
  | 3, _ => rfl
  | 4, _ => rfl
  | 5, _ => rfl
  | 6, _ => rfl
  | 7, _ => rfl
  | 8, _ => rfl
  | 9, _ => rfl
  | 10, _ => rfl
  | 11, _ => rfl
  | 12, _ => rfl
  | 13, _ => rfl
  | 14, _ => rfl
  | 15, _ => rfl
  | 16, _ => rfl
  | 17, _ => rfl
  | 18, _ => rfl
  | _ + 19, hk => exact absurd hk (by omega)
theorem df9 : ∀ k, k < 8 → defaultValue (ty9 k) = if isP 9 k then .null else .int 0 := by
  intro k hk
  match k, hk with
  | 0, _ => rfl
  | 1, _ => rfl
  | 2, _ => rfl
  | 3, _ => rfl
  | 4, _ => rfl
  | 5, _ => rfl
  | 6, _ => rfl
  | 7, _ => rfl
  | _ + 8, hk => exact absurd hk (by omega)
theorem df12 : ∀ k, k < 3 → defaultValue (ty12 k) = if isP 12 k then .null else .int 0 := by
  intro k hk
  match k, hk with
  | 0, _ => rfl
  | 1, _ => rfl
  | 2, _ => rfl
  | _ + 3, hk => exact absurd hk (by omega)
def kTrial (K : KT) : KT := (upK (upK (upK (upK (upK (upK (upK K 1128 (6, 0)) 1129 (100, 192)) 1099 (101, 48)) 1100 (101, 48)) 1101 (100, 192)) 1102 (100, 48)) 1103 (100, 48))
def pTrial (P : PT) (s : Nat) : PT := (up2 (up2 (up2 (up2 (up2 (up2 (up2 (up2 P 1128 0 (some 1129)) 1096 1 (some 1128)) 1096 2 (some 1099)) 1096 3 (some 1100)) 1096 4 (some 1101)) 1096 5 (some 1102)) 1096 6 (some 1103)) 1096 0 (some s))
def iTrial (I : IT) : IT := filI I 1129 0 192 (-2147483648)
theorem sp_Trial_init {s : Nat} (h0 : K 1096 = some (9, 0)) (hf : ∀ j, 1096 < j → j < 1130 → K j = none) : Sp m_Trial_init false ({ frames := 2, cells := 7, slots := 577, locals := 80 } : Room) (ex (kTrial K) (pTrial P s) J (iTrial I) (.inl none)) K P J I [vR (some 1096), vR (some s)] := by
  refine Sp.ofV (by decide) (Or.inr rfl) rfl ?_
  refine VW.aload_n (pc' := 1) d_Trial_init_0 rfl rfl ?_
  refine VW.objI (pc' := 4) d_Trial_init_1 rfl lk_Trial_3 rfl rfl rfl ?_
  refine VW.aload_n (pc' := 5) d_Trial_init_4 rfl rfl ?_
  refine VW.new 1128 (ci := 6) (T := T6) (N := 1) (ty := ty6) (pc' := 8) d_Trial_init_5 rfl lk_Trial_9 kw_instantiable_RowForge_Rows_1 kw_initialized_RowForge_Rows in6 tk6 rfl df6 (hf 1128 (by decide) (by decide)) (by decide) (by decide) ?_
  refine VW.dup (pc' := 9) d_Trial_init_8 rfl rfl ?_
  refine VW.cI (pc' := 12) d_Trial_init_9 rfl mi_Rows_init lk_Trial_11 rfl rfl rfl (by decide) (by decide) (sp_Rows_init (a := 1129) rfl (hf 1129 (by decide) (by decide))) rfl rfl ?_
  refine VW.pPF (ci := 9) (T := T9) (N := 8) (k := 1) (k' := 1) (ty := ty9) (pc' := 15) d_Trial_init_12 rfl lk_Trial_12 in9 tk9 nm9 rfl rfl rfl rfl rfl rfl rfl (by first | exact Or.inl ⟨_, rfl⟩ | exact Or.inr ⟨_, rfl⟩) (by first | exact h0 | rfl) ?_
  refine VW.aload_n (pc' := 16) d_Trial_init_15 rfl rfl ?_
  refine VW.bipush (pc' := 18) d_Trial_init_16 rfl (by decide) ?_
  refine VW.newZ 1099 (N := 48) (pc' := 20) d_Trial_init_18 rfl kw_arrayClass_boolean rfl (by decide) (hf 1099 (by decide) (by decide)) (by decide) (by decide) ?_
  refine VW.pPF (ci := 9) (T := T9) (N := 8) (k := 2) (k' := 2) (ty := ty9) (pc' := 23) d_Trial_init_20 rfl lk_Trial_18 in9 tk9 nm9 rfl rfl rfl rfl rfl rfl rfl (by first | exact Or.inl ⟨_, rfl⟩ | exact Or.inr ⟨_, rfl⟩) (by first | exact h0 | rfl) ?_
  refine VW.aload_n (pc' := 24) d_Trial_init_23 rfl rfl ?_
  refine VW.bipush (pc' := 26) d_Trial_init_24 rfl (by decide) ?_
  refine VW.newZ 1100 (N := 48) (pc' := 28) d_Trial_init_26 rfl kw_arrayClass_boolean rfl (by decide) (hf 1100 (by decide) (by decide)) (by decide) (by decide) ?_
  refine VW.pPF (ci := 9) (T := T9) (N := 8) (k := 3) (k' := 3) (ty := ty9) (pc' := 31) d_Trial_init_28 rfl lk_Trial_22 in9 tk9 nm9 rfl rfl rfl rfl rfl rfl rfl (by first | exact Or.inl ⟨_, rfl⟩ | exact Or.inr ⟨_, rfl⟩) (by first | exact h0 | rfl) ?_
  refine VW.aload_n (pc' := 32) d_Trial_init_31 rfl rfl ?_
  refine VW.sipush (pc' := 35) d_Trial_init_32 rfl (by decide) ?_
  refine VW.newI 1101 (N := 192) (pc' := 37) d_Trial_init_35 rfl kw_arrayClass_int rfl (by decide) (hf 1101 (by decide) (by decide)) (by decide) (by decide) ?_
  refine VW.pPF (ci := 9) (T := T9) (N := 8) (k := 4) (k' := 4) (ty := ty9) (pc' := 40) d_Trial_init_37 rfl lk_Trial_25 in9 tk9 nm9 rfl rfl rfl rfl rfl rfl rfl (by first | exact Or.inl ⟨_, rfl⟩ | exact Or.inr ⟨_, rfl⟩) (by first | exact h0 | rfl) ?_
  refine VW.aload_n (pc' := 41) d_Trial_init_40 rfl rfl ?_
  refine VW.bipush (pc' := 43) d_Trial_init_41 rfl (by decide) ?_
  refine VW.newI 1102 (N := 48) (pc' := 45) d_Trial_init_43 rfl kw_arrayClass_int rfl (by decide) (hf 1102 (by decide) (by decide)) (by decide) (by decide) ?_
  refine VW.pPF (ci := 9) (T := T9) (N := 8) (k := 5) (k' := 5) (ty := ty9) (pc' := 48) d_Trial_init_45 rfl lk_Trial_29 in9 tk9 nm9 rfl rfl rfl rfl rfl rfl rfl (by first | exact Or.inl ⟨_, rfl⟩ | exact Or.inr ⟨_, rfl⟩) (by first | exact h0 | rfl) ?_
  refine VW.aload_n (pc' := 49) d_Trial_init_48 rfl rfl ?_
  refine VW.bipush (pc' := 51) d_Trial_init_49 rfl (by decide) ?_
  refine VW.newI 1103 (N := 48) (pc' := 53) d_Trial_init_51 rfl kw_arrayClass_int rfl (by decide) (hf 1103 (by decide) (by decide)) (by decide) (by decide) ?_
  refine VW.pPF (ci := 9) (T := T9) (N := 8) (k := 6) (k' := 6) (ty := ty9) (pc' := 56) d_Trial_init_53 rfl lk_Trial_32 in9 tk9 nm9 rfl rfl rfl rfl rfl rfl rfl (by first | exact Or.inl ⟨_, rfl⟩ | exact Or.inr ⟨_, rfl⟩) (by first | exact h0 | rfl) ?_
  refine VW.aload_n (pc' := 57) d_Trial_init_56 rfl rfl ?_
  refine VW.aload_n (pc' := 58) d_Trial_init_57 rfl rfl ?_
  refine VW.pPF (ci := 9) (T := T9) (N := 8) (k := 0) (k' := 0) (ty := ty9) (pc' := 61) d_Trial_init_58 rfl lk_Trial_35 in9 tk9 nm9 rfl rfl rfl rfl rfl rfl rfl (by first | exact Or.inl ⟨_, rfl⟩ | exact Or.inr ⟨_, rfl⟩) (by first | exact h0 | rfl) ?_
  exact VW.vret d_Trial_init_61 rfl (by decide) (by decide) ex_rf
def kEngine (K : KT) : KT := (kTrial (upK (upK (upK (upK (kLog (upK (upK (upK (upK K 1160 (6, 0)) 1161 (100, 192)) 1448 (12, 0)) 1192 (2, 0))) 1069 (100, 12006)) 1070 (100, 12006)) 1071 (100, 6)) 1096 (9, 0)))
def pEngine (P : PT) (s : Nat) : PT := (up2 (pTrial (up2 (up2 (up2 (up2 (pLog (up2 (up2 (up2 (up2 P 1160 0 (some 1161)) 1064 1 (some 1160)) 1448 1 (some 999)) 1064 2 (some 1448))) 1064 3 (some 1192)) 1064 4 (some 1069)) 1064 5 (some 1070)) 1064 6 (some 1071)) s) 1064 0 (some 1096))
def iEngine (I : IT) : IT := filI (iTrial (up2 (filI I 1161 0 192 (-2147483648)) 1448 0 0)) 1069 0 12006 (-1)
theorem sp_Engine_init {s : Nat} (h0 : K 1064 = some (0, 0)) (hf : ∀ j, 1064 < j → j < 1600 → K j = none) (hd : K 12000 = none) : Sp m_Engine_init false ({ frames := 4, cells := 18, slots := 25436, locals := 160 } : Room) (ex (kEngine K) (pEngine P s) J (iEngine I) (.inl none)) K P J I [vR (some 1064), vR (some s)] := by
  refine Sp.ofV (by decide) (Or.inr rfl) rfl ?_
  refine VW.aload_n (pc' := 1) d_Engine_init_0 rfl rfl ?_
  refine VW.objI (pc' := 4) d_Engine_init_1 rfl lk_Engine_3 rfl rfl rfl ?_
  refine VW.aload_n (pc' := 5) d_Engine_init_4 rfl rfl ?_
  refine VW.new 1160 (ci := 6) (T := T6) (N := 1) (ty := ty6) (pc' := 8) d_Engine_init_5 rfl lk_Engine_9 kw_instantiable_RowForge_Rows_1 kw_initialized_RowForge_Rows in6 tk6 rfl df6 (hf 1160 (by decide) (by decide)) (by decide) (by decide) ?_
  refine VW.dup (pc' := 9) d_Engine_init_8 rfl rfl ?_
  refine VW.cI (pc' := 12) d_Engine_init_9 rfl mi_Rows_init lk_Engine_11 rfl rfl rfl (by decide) (by decide) (sp_Rows_init (a := 1161) rfl (hf 1161 (by decide) (by decide))) rfl rfl ?_
  refine VW.pPF (ci := 0) (T := T0) (N := 8) (k := 1) (k' := 1) (ty := ty0) (pc' := 15) d_Engine_init_12 rfl lk_Engine_12 in0 tk0 nm0 rfl rfl rfl rfl rfl rfl rfl (by first | exact Or.inl ⟨_, rfl⟩ | exact Or.inr ⟨_, rfl⟩) (by first | exact h0 | rfl) ?_
  refine VW.aload_n (pc' := 16) d_Engine_init_15 rfl rfl ?_
  refine VW.new 1448 (ci := 12) (T := T12) (N := 3) (ty := ty12) (pc' := 19) d_Engine_init_16 rfl lk_Engine_18 kw_instantiable_java_util_ArrayList_3 kw_initialized_java_util_ArrayList in12 tk12 rfl df12 (hf 1448 (by decide) (by decide)) (by decide) (by decide) ?_
  refine VW.dup (pc' := 20) d_Engine_init_19 rfl rfl ?_
  refine VW.cI (pc' := 23) d_Engine_init_20 rfl mi_java_util_ArrayList_init lk_Engine_20 rfl rfl rfl (by decide) (by decide) (sp_java_util_ArrayList_init rfl) rfl rfl ?_
  refine VW.pPF (ci := 0) (T := T0) (N := 8) (k := 2) (k' := 2) (ty := ty0) (pc' := 26) d_Engine_init_23 rfl lk_Engine_21 in0 tk0 nm0 rfl rfl rfl rfl rfl rfl rfl (by first | exact Or.inl ⟨_, rfl⟩ | exact Or.inr ⟨_, rfl⟩) (by first | exact h0 | rfl) ?_
  refine VW.aload_n (pc' := 27) d_Engine_init_26 rfl rfl ?_
  refine VW.new 1192 (ci := 2) (T := T2) (N := 5) (ty := ty2) (pc' := 30) d_Engine_init_27 rfl lk_Engine_25 kw_instantiable_RowForge_Log_5 kw_initialized_RowForge_Log in2 tk2 rfl df2 (hf 1192 (by decide) (by decide)) (by decide) (by decide) ?_
  refine VW.dup (pc' := 31) d_Engine_init_30 rfl rfl ?_
  refine VW.cIN (host := "RowForge") (pc' := 34) d_Engine_init_31 rfl mi_Log_init (by decide) rfl rfl rfl (by decide) (by decide) (sp_Log_init rfl (fun j h1 h2 => (upK_o _ _ (by omega)).trans ((upK_o _ _ (by omega)).trans ((upK_o _ _ (by omega)).trans ((upK_o _ _ (by omega)).trans (hf j (by omega) (by omega)))))) hd) rfl rfl ?_
  refine VW.pPF (ci := 0) (T := T0) (N := 8) (k := 3) (k' := 3) (ty := ty0) (pc' := 37) d_Engine_init_34 rfl lk_Engine_28 in0 tk0 nm0 rfl rfl rfl rfl rfl rfl rfl (by first | exact Or.inl ⟨_, rfl⟩ | exact Or.inr ⟨_, rfl⟩) (by first | exact h0 | rfl) ?_
  refine VW.aload_n (pc' := 38) d_Engine_init_37 rfl rfl ?_
  refine VW.sipush (pc' := 41) d_Engine_init_38 rfl (by decide) ?_
  refine VW.newI 1069 (N := 12006) (pc' := 43) d_Engine_init_41 rfl kw_arrayClass_int rfl (by decide) (hf 1069 (by decide) (by decide)) (by decide) (by decide) ?_
  refine VW.pPF (ci := 0) (T := T0) (N := 8) (k := 4) (k' := 4) (ty := ty0) (pc' := 46) d_Engine_init_43 rfl lk_Engine_32 in0 tk0 nm0 rfl rfl rfl rfl rfl rfl rfl (by first | exact Or.inl ⟨_, rfl⟩ | exact Or.inr ⟨_, rfl⟩) (by first | exact h0 | rfl) ?_
  refine VW.aload_n (pc' := 47) d_Engine_init_46 rfl rfl ?_
  refine VW.sipush (pc' := 50) d_Engine_init_47 rfl (by decide) ?_
  refine VW.newI 1070 (N := 12006) (pc' := 52) d_Engine_init_50 rfl kw_arrayClass_int rfl (by decide) (hf 1070 (by decide) (by decide)) (by decide) (by decide) ?_
  refine VW.pPF (ci := 0) (T := T0) (N := 8) (k := 5) (k' := 5) (ty := ty0) (pc' := 55) d_Engine_init_52 rfl lk_Engine_36 in0 tk0 nm0 rfl rfl rfl rfl rfl rfl rfl (by first | exact Or.inl ⟨_, rfl⟩ | exact Or.inr ⟨_, rfl⟩) (by first | exact h0 | rfl) ?_
  refine VW.aload_n (pc' := 56) d_Engine_init_55 rfl rfl ?_
  refine VW.bipush (pc' := 58) d_Engine_init_56 rfl (by decide) ?_
  refine VW.newI 1071 (N := 6) (pc' := 60) d_Engine_init_58 rfl kw_arrayClass_int rfl (by decide) (hf 1071 (by decide) (by decide)) (by decide) (by decide) ?_
  refine VW.pPF (ci := 0) (T := T0) (N := 8) (k := 6) (k' := 6) (ty := ty0) (pc' := 63) d_Engine_init_60 rfl lk_Engine_39 in0 tk0 nm0 rfl rfl rfl rfl rfl rfl rfl (by first | exact Or.inl ⟨_, rfl⟩ | exact Or.inr ⟨_, rfl⟩) (by first | exact h0 | rfl) ?_
  refine VW.aload_n (pc' := 64) d_Engine_init_63 rfl rfl ?_
  refine VW.new 1096 (ci := 9) (T := T9) (N := 8) (ty := ty9) (pc' := 67) d_Engine_init_64 rfl lk_Engine_42 kw_instantiable_RowForge_Trial_8 kw_initialized_RowForge_Trial in9 tk9 rfl df9 (hf 1096 (by decide) (by decide)) (by decide) (by decide) ?_
  refine VW.dup (pc' := 68) d_Engine_init_67 rfl rfl ?_
  refine VW.aload_n (pc' := 69) d_Engine_init_68 rfl rfl ?_
  refine VW.cI (pc' := 72) d_Engine_init_69 rfl mi_Trial_init lk_Engine_44 rfl rfl rfl (by decide) (by decide) (sp_Trial_init rfl (fun j h1 h2 => (upK_o _ _ (by omega)).trans ((upK_o _ _ (by omega)).trans ((upK_o _ _ (by omega)).trans ((upK_o _ _ (by omega)).trans ((upK_o _ _ (by omega)).trans ((upK_o _ _ (by omega)).trans ((upK_o _ _ (by omega)).trans ((upK_o _ _ (by omega)).trans ((upK_o _ _ (by omega)).trans ((upK_o _ _ (by omega)).trans ((upK_o _ _ (by omega)).trans (hf j (by omega) (by omega)))))))))))))) rfl rfl ?_
  refine VW.pPF (ci := 0) (T := T0) (N := 8) (k := 0) (k' := 0) (ty := ty0) (pc' := 75) d_Engine_init_72 rfl lk_Engine_47 in0 tk0 nm0 rfl rfl rfl rfl rfl rfl rfl (by first | exact Or.inl ⟨_, rfl⟩ | exact Or.inr ⟨_, rfl⟩) (by first | exact h0 | rfl) ?_
  refine VW.aload_n (pc' := 76) d_Engine_init_75 rfl rfl ?_
  refine VW.gP (ci := 0) (T := T0) (N := 8) (k := 4) (k' := 4) (pc' := 79) d_Engine_init_76 rfl lk_Engine_32 in0 rfl rfl rfl rfl (by first | exact h0 | rfl) (rfl) ?_
  refine VW.iconst (pc' := 80) d_Engine_init_79 rfl (by decide) ?_
  refine VW.cS (pc' := 83) d_Engine_init_80 rfl ms_java_util_Arrays_fill lk_Engine_51 rfl rfl rfl (by decide) (by decide) (sp_fill rfl (by decide)) rfl rfl ?_
  exact VW.vret d_Engine_init_83 rfl (by decide) (by decide) ex_rf
def evRel (K : KT) (P : PT) : Nat → KT × PT
  | 0 => ((upK (upK (upK (upK K 1226 (103, 4)) 1227 (100, 512)) 1228 (100, 512)) 1229 (101, 512)), (up2 (up2 (up2 (up2 (up2 P 1224 1 (some 1226)) 1224 2 (some 1227)) 1224 3 (some 1228)) 1224 4 (some 1229)) 1224 0 (some 1032)))
  | i + 1 => (upK (upK (evRel K P i).1 (1256 + 32 * i) (5, 0)) (1256 + 32 * i + 1) (100, 5120), up2 (up2 (evRel K P i).2 (1256 + 32 * i) 0 (some (1256 + 32 * i + 1))) 1226 (i : Int) (some (1256 + 32 * i)))
theorem evRel_o {i q : Nat} (h : q < 1224 ∨ 1256 + 32 * i ≤ q) : (evRel K P i).1 q = K q := by
  induction i with
  | zero => exact (upK_o _ _ (by omega)).trans ((upK_o _ _ (by omega)).trans ((upK_o _ _ (by omega)).trans (upK_o _ _ (by omega))))
  | succ i ih => exact (upK_o _ _ (by omega)).trans ((upK_o _ _ (by omega)).trans (ih (by omega)))
theorem evRel_k {i q : Nat} (h : 1224 ≤ q ∧ q < 1256) : (evRel K P i).1 q = (evRel K P 0).1 q := by
  induction i with
  | zero => rfl
  | succ i ih => exact (upK_o _ _ (by omega)).trans ((upK_o _ _ (by omega)).trans ih)
theorem evRel_p {i : Nat} {z : Int} : (evRel K P i).2 1224 z = (evRel K P 0).2 1224 z := by
  induction i with
  | zero => rfl
  | succ i ih =>
    show up2 (up2 (evRel K P i).2 (1256 + 32 * i) 0 (some (1256 + 32 * i + 1))) 1226 (i : Int) (some (1256 + 32 * i)) 1224 z = _
    rw [up2_o _ _ _ _ (show 1224 ≠ 1226 by decide), up2_o _ _ _ _ (show 1224 ≠ 1256 + 32 * i by omega)]
    exact ih
theorem sp_Evaluator_init (h0 : K 1224 = some (1, 0)) (hf : ∀ j, 1224 < j → j < 1384 → K j = none) : Sp m_Evaluator_init false ({ frames := 2, cells := 12, slots := 22100, locals := 80 } : Room) (ex (evRel K P 4).1 (evRel K P 4).2 J I (.inl none)) K P J I [vR (some 1224), vR (some 1032)] := by
  refine Sp.ofV (by decide) (Or.inr rfl) rfl ?_
  have loop : ∀ (l i : Nat), i + l = 4 → VW m_Evaluator_init false ({ frames := 2, cells := 12, slots := 22100, locals := 80 } : Room) (ex (evRel K P 4).1 (evRel K P 4).2 J I (.inl none)) (evRel K P i).1 (evRel K P i).2 J I (4 + 2 * i) (1540 + 5123 * i) 46 [(0, vR (some 1224)), (1, vR (some 1032)), (2, vI (i : Int))] [] := by
    intro l
    induction l with
    | zero =>
      intro i hi
      have ei : i = 4 := by omega
      subst ei
      have k0 : (evRel K P 4).1 1224 = some (1, 0) := (evRel_k (by decide)).trans h0
      have p1 : (evRel K P 4).2 1224 1 = some 1226 := evRel_p
      have k1 : (evRel K P 4).1 1226 = some (103, 4) := evRel_k (by decide)
      refine VW.iload_n (pc' := 47) d_Evaluator_init_46 rfl rfl ?_
      refine VW.aload_n (pc' := 48) d_Evaluator_init_47 rfl rfl ?_
      refine VW.gP (ci := 1) (T := T1) (N := 7) (k := 1) (k' := 1) (pc' := 51) d_Evaluator_init_48 rfl lk_Evaluator_11 in1 rfl rfl rfl rfl (by first | exact k0 | exact k1) (p1) ?_
      refine VW.alen (pc' := 52) d_Evaluator_init_51 rfl (by first | exact k0 | exact k1) (by simp) (by omega) ?_
      refine VW.icmp_ge (tgt := 74) (pc' := 55) d_Evaluator_init_52 rfl rfl (fun c52 => ?_) (fun c52 => ?_)
      · exact VW.vret d_Evaluator_init_74 rfl (by decide) (by decide) ex_rf
      · exfalso; omega
    | succ l ih =>
      intro i hi
      have k0 : (evRel K P i).1 1224 = some (1, 0) := (evRel_k (by decide)).trans h0
      have p1 : (evRel K P i).2 1224 1 = some 1226 := evRel_p
      have k1 : (evRel K P i).1 1226 = some (103, 4) := evRel_k (by decide)
      have f1 : (evRel K P i).1 (1256 + 32 * i) = none := (evRel_o (by omega)).trans (hf _ (by omega) (by omega))
      have f2 : upK (evRel K P i).1 (1256 + 32 * i) (5, 0) (1256 + 32 * i + 1) = none := (upK_o _ _ (by omega)).trans ((evRel_o (by omega)).trans (hf _ (by omega) (by omega)))
      have k2 : upK (upK (evRel K P i).1 (1256 + 32 * i) (5, 0)) (1256 + 32 * i + 1) (100, 5120) 1226 = some (103, 4) := (upK_o _ _ (by omega)).trans ((upK_o _ _ (by omega)).trans k1)
      have k3 : upK (upK (evRel K P i).1 (1256 + 32 * i) (5, 0)) (1256 + 32 * i + 1) (100, 5120) (1256 + 32 * i) = some (5, 0) := (upK_o _ _ (by omega)).trans (upK_eq _ _ _)
      have n9 := ih (i + 1) (by omega)
      rw [show ((i + 1 : Nat) : Int) = (i : Int) + 1 by omega, show 4 + 2 * (i + 1) = 4 + 2 * i + 1 + 1 by omega, show 1540 + 5123 * (i + 1) = 1540 + 5123 * i + 3 + 5120 by omega] at n9
      clear ih
      refine VW.iload_n (pc' := 47) d_Evaluator_init_46 rfl rfl ?_
      refine VW.aload_n (pc' := 48) d_Evaluator_init_47 rfl rfl ?_
      refine VW.gP (ci := 1) (T := T1) (N := 7) (k := 1) (k' := 1) (pc' := 51) d_Evaluator_init_48 rfl lk_Evaluator_11 in1 rfl rfl rfl rfl (by first | exact k0 | exact k1) (p1) ?_
      refine VW.alen (pc' := 52) d_Evaluator_init_51 rfl (by first | exact k0 | exact k1) (by simp) (by omega) ?_
      refine VW.icmp_ge (tgt := 74) (pc' := 55) d_Evaluator_init_52 rfl rfl (fun c52 => ?_) (fun c52 => ?_)
      · exfalso; omega
      · refine VW.aload_n (pc' := 56) d_Evaluator_init_55 rfl rfl ?_
        refine VW.gP (ci := 1) (T := T1) (N := 7) (k := 1) (k' := 1) (pc' := 59) d_Evaluator_init_56 rfl lk_Evaluator_11 in1 rfl rfl rfl rfl (by first | exact k0 | exact k1) (p1) ?_
        refine VW.iload_n (pc' := 60) d_Evaluator_init_59 rfl rfl ?_
        refine VW.new (1256 + 32 * i) (ci := 5) (T := T5) (N := 3) (ty := ty5) (pc' := 63) d_Evaluator_init_60 rfl lk_Evaluator_9 kw_instantiable_RowForge_Relation_3 kw_initialized_RowForge_Relation in5 tk5 rfl df5 (f1) (show 4 + 2 * i + 1 ≤ 12 by omega) (show 1540 + 5123 * i + 3 ≤ 22100 by omega) ?_
        refine VW.dup (pc' := 64) d_Evaluator_init_63 rfl rfl ?_
        refine VW.cIN (host := "RowForge") (pc' := 67) d_Evaluator_init_64 rfl mi_Relation_init (by decide) rfl rfl rfl (show 4 + 2 * i + 1 + 1 ≤ 12 by omega) (show 1540 + 5123 * i + 3 + 5120 ≤ 22100 by omega) (sp_Relation_init (c := 1256 + 32 * i + 1) (upK_eq _ _ _) f2) rfl rfl ?_
        refine VW.astR (N := 4) (n0 := 0) (pc' := 68) d_Evaluator_init_67 rfl k2 k3 (by omega) (by omega) ?_
        refine VW.iinc (pc' := 71) d_Evaluator_init_68 rfl rfl rfl (by omega) ?_
        refine VW.goto (pc' := 46) d_Evaluator_init_71 rfl ?_
        refine VW.pick [0, 1, 2] ?_
        exact n9
  have l9 := loop 4 0 (by omega)
  clear loop
  refine VW.aload_n (pc' := 1) d_Evaluator_init_0 rfl rfl ?_
  refine VW.objI (pc' := 4) d_Evaluator_init_1 rfl lk_Evaluator_3 rfl rfl rfl ?_
  refine VW.aload_n (pc' := 5) d_Evaluator_init_4 rfl rfl ?_
  refine VW.iconst (pc' := 6) d_Evaluator_init_5 rfl (by decide) ?_
  refine VW.newRel 1226 (N := 4) (pc' := 9) d_Evaluator_init_6 rfl lk_Evaluator_9 rfl (by decide) (hf 1226 (by decide) (by decide)) (by decide) (by decide) ?_
  refine VW.pPF (ci := 1) (T := T1) (N := 7) (k := 1) (k' := 1) (ty := ty1) (pc' := 12) d_Evaluator_init_9 rfl lk_Evaluator_11 in1 tk1 nm1 rfl rfl rfl rfl rfl rfl rfl (by first | exact Or.inl ⟨_, rfl⟩ | exact Or.inr ⟨_, rfl⟩) (by first | exact h0 | rfl) ?_
  refine VW.aload_n (pc' := 13) d_Evaluator_init_12 rfl rfl ?_
  refine VW.sipush (pc' := 16) d_Evaluator_init_13 rfl (by decide) ?_
  refine VW.newI 1227 (N := 512) (pc' := 18) d_Evaluator_init_16 rfl kw_arrayClass_int rfl (by decide) (hf 1227 (by decide) (by decide)) (by decide) (by decide) ?_
  refine VW.pPF (ci := 1) (T := T1) (N := 7) (k := 2) (k' := 2) (ty := ty1) (pc' := 21) d_Evaluator_init_18 rfl lk_Evaluator_17 in1 tk1 nm1 rfl rfl rfl rfl rfl rfl rfl (by first | exact Or.inl ⟨_, rfl⟩ | exact Or.inr ⟨_, rfl⟩) (by first | exact h0 | rfl) ?_
  refine VW.aload_n (pc' := 22) d_Evaluator_init_21 rfl rfl ?_
  refine VW.sipush (pc' := 25) d_Evaluator_init_22 rfl (by decide) ?_
  refine VW.newI 1228 (N := 512) (pc' := 27) d_Evaluator_init_25 rfl kw_arrayClass_int rfl (by decide) (hf 1228 (by decide) (by decide)) (by decide) (by decide) ?_
  refine VW.pPF (ci := 1) (T := T1) (N := 7) (k := 3) (k' := 3) (ty := ty1) (pc' := 30) d_Evaluator_init_27 rfl lk_Evaluator_21 in1 tk1 nm1 rfl rfl rfl rfl rfl rfl rfl (by first | exact Or.inl ⟨_, rfl⟩ | exact Or.inr ⟨_, rfl⟩) (by first | exact h0 | rfl) ?_
  refine VW.aload_n (pc' := 31) d_Evaluator_init_30 rfl rfl ?_
  refine VW.sipush (pc' := 34) d_Evaluator_init_31 rfl (by decide) ?_
  refine VW.newZ 1229 (N := 512) (pc' := 36) d_Evaluator_init_34 rfl kw_arrayClass_boolean rfl (by decide) (hf 1229 (by decide) (by decide)) (by decide) (by decide) ?_
  refine VW.pPF (ci := 1) (T := T1) (N := 7) (k := 4) (k' := 4) (ty := ty1) (pc' := 39) d_Evaluator_init_36 rfl lk_Evaluator_24 in1 tk1 nm1 rfl rfl rfl rfl rfl rfl rfl (by first | exact Or.inl ⟨_, rfl⟩ | exact Or.inr ⟨_, rfl⟩) (by first | exact h0 | rfl) ?_
  refine VW.aload_n (pc' := 40) d_Evaluator_init_39 rfl rfl ?_
  refine VW.aload_n (pc' := 41) d_Evaluator_init_40 rfl rfl ?_
  refine VW.pPF (ci := 1) (T := T1) (N := 7) (k := 0) (k' := 0) (ty := ty1) (pc' := 44) d_Evaluator_init_41 rfl lk_Evaluator_28 in1 tk1 nm1 rfl rfl rfl rfl rfl rfl rfl (by first | exact Or.inl ⟨_, rfl⟩ | exact Or.inr ⟨_, rfl⟩) (by first | exact h0 | rfl) ?_
  refine VW.iconst (pc' := 45) d_Evaluator_init_44 rfl (by decide) ?_
  refine VW.istore_n (pc' := 46) d_Evaluator_init_45 rfl rfl ?_
  refine VW.pick [0, 1, 2] ?_
  exact l9
end
