section
variable {K : KT} {P : PT} {J I : IT}
theorem sp_Rows_init {r a : Nat} (hr : K r = some (6, 0)) (ha : K a = none) : Sp m_Rows_init false ({ frames := 1, cells := 1, slots := 192, locals := 40 } : Room) (ex (upK K a (100, 192)) (up2 P r 0 (some a)) J (filI I a 0 192 (-2147483648)) (.inl none)) K P J I [vR (some r)] := by
  refine Sp.ofV (by decide) (Or.inr rfl) rfl ?_
  have ne : r ≠ a := fun z => by rw [z, ha] at hr; cases hr
  have hr' : upK K a (100, 192) r = some (6, 0) := (upK_o _ _ ne).trans hr
  have ha' : upK K a (100, 192) a = some (100, 192) := upK_eq _ _ _
  refine VW.aload_n (pc' := 1) d_Rows_init_0 rfl rfl ?_
  refine VW.objI (pc' := 4) d_Rows_init_1 rfl lk_Rows_3 rfl rfl rfl ?_
  refine VW.aload_n (pc' := 5) d_Rows_init_4 rfl rfl ?_
  refine VW.sipush (pc' := 8) d_Rows_init_5 rfl (by decide) ?_
  refine VW.newI a (N := 192) (pc' := 10) d_Rows_init_8 rfl kw_arrayClass_int rfl (by decide) ha (by decide) (by decide) ?_
  refine VW.pPF (ci := 6) (T := T6) (N := 1) (k := 0) (k' := 0) (ty := ty6) (pc' := 13) d_Rows_init_10 rfl lk_Rows_9 in6 tk6 nm6 rfl rfl rfl rfl rfl rfl rfl (by first | exact Or.inl ⟨_, rfl⟩ | exact Or.inr ⟨_, rfl⟩) (by first | exact hr' | exact ha') ?_
  refine VW.aload_n (pc' := 14) d_Rows_init_13 rfl rfl ?_
  refine VW.gP (ci := 6) (T := T6) (N := 1) (k := 0) (k' := 0) (pc' := 17) d_Rows_init_14 rfl lk_Rows_9 in6 rfl rfl rfl rfl (by first | exact hr' | exact ha') (by first | exact up2_eq _ _ _ _ | rfl) ?_
  refine VW.ldc (pc' := 19) (z := -2147483648) d_Rows_init_17 rfl lk_Rows_15 (by decide) (by decide) ?_
  refine VW.cS (pc' := 22) d_Rows_init_19 rfl ms_java_util_Arrays_fill lk_Rows_16 rfl rfl rfl (by decide) (by decide) (sp_fill ha' (by decide)) rfl rfl ?_
  exact VW.vret d_Rows_init_22 rfl (by decide) (by decide) ex_rf
end
