section
variable {K : KT} {P : PT} {J I : IT}
def kTx (K : KT) (x : Nat) : KT := (upK (upK (upK (upK (upK (upK K (x + 32) (6, 0)) (x + 33) (100, 192)) (x + 13) (100, 4)) (x + 40) (100, 8)) (x + 60) (100, 8)) (x + 80) (100, 8))
def pTx (P : PT) (x : Nat) : PT := (up2 (up2 (up2 (up2 (up2 (up2 P (x + 32) 0 (some (x + 33))) x 3 (some (x + 32))) x 12 (some (x + 13))) x 15 (some (x + 40))) x 16 (some (x + 60))) x 18 (some (x + 80)))
def iTx (I : IT) (x : Nat) (a b c : Int) : IT := up2 (up2 (up2 (up2 (up2 (up2 (filI I (x + 33) 0 192 (-2147483648)) x 4 0) x 5 (-1)) x 6 (-1)) x 0 a) x 1 b) x 2 c
theorem sp_Transaction_init {x : Nat} {a b c : Int} (h0 : K x = some (8, 0)) (hf : ∀ j, 0 < j → j < 128 → K (x + j) = none) : Sp m_Transaction_init false ({ frames := 2, cells := 6, slots := 221, locals := 80 } : Room) (ex (kTx K x) (pTx P x) J (iTx I x a b c) (.inl none)) K P J I [vR (some x), vI a, vI b, vI c] := by
  refine Sp.ofV (by decide) (Or.inr rfl) rfl ?_
  refine VW.aload_n (pc' := 1) d_Transaction_init_0 rfl rfl ?_
  refine VW.objI (pc' := 4) d_Transaction_init_1 rfl lk_Transaction_3 rfl rfl rfl ?_
  refine VW.aload_n (pc' := 5) d_Transaction_init_4 rfl rfl ?_
  refine VW.new (x + 32) (ci := 6) (T := T6) (N := 1) (ty := ty6) (pc' := 8) d_Transaction_init_5 rfl lk_Transaction_9 kw_instantiable_RowForge_Rows_1 kw_initialized_RowForge_Rows in6 tk6 rfl df6 (hf 32 (by decide) (by decide)) (by decide) (by decide) ?_
  refine VW.dup (pc' := 9) d_Transaction_init_8 rfl rfl ?_
  refine VW.cI (pc' := 12) d_Transaction_init_9 rfl mi_Rows_init lk_Transaction_11 rfl rfl rfl (by decide) (by decide) (sp_Rows_init (a := x + 33) (upK_eq _ _ _) ((upK_o _ _ (by omega)).trans (hf 33 (by decide) (by decide)))) rfl rfl ?_
  refine VW.pPF (ci := 8) (T := T8) (N := 19) (k := 3) (k' := 3) (ty := ty8) (pc' := 15) d_Transaction_init_12 rfl lk_Transaction_12 in8 tk8 nm8 rfl rfl rfl rfl rfl rfl rfl (by first | exact Or.inl ⟨_, rfl⟩ | exact Or.inr ⟨_, rfl⟩) ((upK_o _ _ (by omega)).trans ((upK_o _ _ (by omega)).trans (h0))) ?_
  refine VW.aload_n (pc' := 16) d_Transaction_init_15 rfl rfl ?_
  refine VW.iconst (pc' := 17) d_Transaction_init_16 rfl (by decide) ?_
  refine VW.pI (ci := 8) (T := T8) (N := 19) (k := 4) (k' := 4) (ty := ty8) (pc' := 20) d_Transaction_init_17 rfl lk_Transaction_18 in8 tk8 nm8 rfl rfl rfl rfl rfl rfl ((upK_o _ _ (by omega)).trans ((upK_o _ _ (by omega)).trans (h0))) ?_
  refine VW.aload_n (pc' := 21) d_Transaction_init_20 rfl rfl ?_
  refine VW.iconst (pc' := 22) d_Transaction_init_21 rfl (by decide) ?_
  refine VW.pI (ci := 8) (T := T8) (N := 19) (k := 5) (k' := 5) (ty := ty8) (pc' := 25) d_Transaction_init_22 rfl lk_Transaction_22 in8 tk8 nm8 rfl rfl rfl rfl rfl rfl ((upK_o _ _ (by omega)).trans ((upK_o _ _ (by omega)).trans (h0))) ?_
  refine VW.aload_n (pc' := 26) d_Transaction_init_25 rfl rfl ?_
  refine VW.iconst (pc' := 27) d_Transaction_init_26 rfl (by decide) ?_
  refine VW.pI (ci := 8) (T := T8) (N := 19) (k := 6) (k' := 6) (ty := ty8) (pc' := 30) d_Transaction_init_27 rfl lk_Transaction_25 in8 tk8 nm8 rfl rfl rfl rfl rfl rfl ((upK_o _ _ (by omega)).trans ((upK_o _ _ (by omega)).trans (h0))) ?_
  refine VW.aload_n (pc' := 31) d_Transaction_init_30 rfl rfl ?_
  refine VW.iconst (pc' := 32) d_Transaction_init_31 rfl (by decide) ?_
  refine VW.newI (x + 13) (N := 4) (pc' := 34) d_Transaction_init_32 rfl kw_arrayClass_int rfl (by decide) ((upK_o _ _ (by omega)).trans ((upK_o _ _ (by omega)).trans (hf 13 (by decide) (by decide)))) (by decide) (by decide) ?_
  refine VW.pPF (ci := 8) (T := T8) (N := 19) (k := 12) (k' := 12) (ty := ty8) (pc' := 37) d_Transaction_init_34 rfl lk_Transaction_28 in8 tk8 nm8 rfl rfl rfl rfl rfl rfl rfl (by first | exact Or.inl ⟨_, rfl⟩ | exact Or.inr ⟨_, rfl⟩) ((upK_o _ _ (by omega)).trans ((upK_o _ _ (by omega)).trans ((upK_o _ _ (by omega)).trans (h0)))) ?_
  refine VW.aload_n (pc' := 38) d_Transaction_init_37 rfl rfl ?_
  refine VW.bipush (pc' := 40) d_Transaction_init_38 rfl (by decide) ?_
  refine VW.newI (x + 40) (N := 8) (pc' := 42) d_Transaction_init_40 rfl kw_arrayClass_int rfl (by decide) ((upK_o _ _ (by omega)).trans ((upK_o _ _ (by omega)).trans ((upK_o _ _ (by omega)).trans (hf 40 (by decide) (by decide))))) (by decide) (by decide) ?_
  refine VW.pP (ci := 8) (T := T8) (N := 19) (k := 15) (k' := 15) (ty := ty8) (pc' := 45) d_Transaction_init_42 rfl lk_Transaction_32 in8 tk8 nm8 rfl rfl rfl rfl rfl (by first | exact Or.inl ⟨_, rfl⟩ | exact Or.inr ⟨_, rfl⟩) ((upK_o _ _ (by omega)).trans ((upK_o _ _ (by omega)).trans ((upK_o _ _ (by omega)).trans ((upK_o _ _ (by omega)).trans (h0))))) ?_
  refine VW.aload_n (pc' := 46) d_Transaction_init_45 rfl rfl ?_
  refine VW.bipush (pc' := 48) d_Transaction_init_46 rfl (by decide) ?_
  refine VW.newI (x + 60) (N := 8) (pc' := 50) d_Transaction_init_48 rfl kw_arrayClass_int rfl (by decide) ((upK_o _ _ (by omega)).trans ((upK_o _ _ (by omega)).trans ((upK_o _ _ (by omega)).trans ((upK_o _ _ (by omega)).trans (hf 60 (by decide) (by decide)))))) (by decide) (by decide) ?_
  refine VW.pP (ci := 8) (T := T8) (N := 19) (k := 16) (k' := 16) (ty := ty8) (pc' := 53) d_Transaction_init_50 rfl lk_Transaction_35 in8 tk8 nm8 rfl rfl rfl rfl rfl (by first | exact Or.inl ⟨_, rfl⟩ | exact Or.inr ⟨_, rfl⟩) ((upK_o _ _ (by omega)).trans ((upK_o _ _ (by omega)).trans ((upK_o _ _ (by omega)).trans ((upK_o _ _ (by omega)).trans ((upK_o _ _ (by omega)).trans (h0)))))) ?_
  refine VW.aload_n (pc' := 54) d_Transaction_init_53 rfl rfl ?_
  refine VW.bipush (pc' := 56) d_Transaction_init_54 rfl (by decide) ?_
  refine VW.newI (x + 80) (N := 8) (pc' := 58) d_Transaction_init_56 rfl kw_arrayClass_int rfl (by decide) ((upK_o _ _ (by omega)).trans ((upK_o _ _ (by omega)).trans ((upK_o _ _ (by omega)).trans ((upK_o _ _ (by omega)).trans ((upK_o _ _ (by omega)).trans (hf 80 (by decide) (by decide))))))) (by decide) (by decide) ?_
  refine VW.pP (ci := 8) (T := T8) (N := 19) (k := 18) (k' := 18) (ty := ty8) (pc' := 61) d_Transaction_init_58 rfl lk_Transaction_38 in8 tk8 nm8 rfl rfl rfl rfl rfl (by first | exact Or.inl ⟨_, rfl⟩ | exact Or.inr ⟨_, rfl⟩) ((upK_o _ _ (by omega)).trans ((upK_o _ _ (by omega)).trans ((upK_o _ _ (by omega)).trans ((upK_o _ _ (by omega)).trans ((upK_o _ _ (by omega)).trans ((upK_o _ _ (by omega)).trans (h0))))))) ?_
  refine VW.aload_n (pc' := 62) d_Transaction_init_61 rfl rfl ?_
  refine VW.iload_n (pc' := 63) d_Transaction_init_62 rfl rfl ?_
  refine VW.pIF (ci := 8) (T := T8) (N := 19) (k := 0) (k' := 0) (ty := ty8) (pc' := 66) d_Transaction_init_63 rfl lk_Transaction_41 in8 tk8 nm8 rfl rfl rfl rfl rfl rfl rfl rfl ((upK_o _ _ (by omega)).trans ((upK_o _ _ (by omega)).trans ((upK_o _ _ (by omega)).trans ((upK_o _ _ (by omega)).trans ((upK_o _ _ (by omega)).trans ((upK_o _ _ (by omega)).trans (h0))))))) ?_
  refine VW.aload_n (pc' := 67) d_Transaction_init_66 rfl rfl ?_
  refine VW.iload_n (pc' := 68) d_Transaction_init_67 rfl rfl ?_
  refine VW.pIF (ci := 8) (T := T8) (N := 19) (k := 1) (k' := 1) (ty := ty8) (pc' := 71) d_Transaction_init_68 rfl lk_Transaction_44 in8 tk8 nm8 rfl rfl rfl rfl rfl rfl rfl rfl ((upK_o _ _ (by omega)).trans ((upK_o _ _ (by omega)).trans ((upK_o _ _ (by omega)).trans ((upK_o _ _ (by omega)).trans ((upK_o _ _ (by omega)).trans ((upK_o _ _ (by omega)).trans (h0))))))) ?_
  refine VW.aload_n (pc' := 72) d_Transaction_init_71 rfl rfl ?_
  refine VW.iload_n (pc' := 73) d_Transaction_init_72 rfl rfl ?_
  refine VW.pIF (ci := 8) (T := T8) (N := 19) (k := 2) (k' := 2) (ty := ty8) (pc' := 76) d_Transaction_init_73 rfl lk_Transaction_47 in8 tk8 nm8 rfl rfl rfl rfl rfl rfl rfl rfl ((upK_o _ _ (by omega)).trans ((upK_o _ _ (by omega)).trans ((upK_o _ _ (by omega)).trans ((upK_o _ _ (by omega)).trans ((upK_o _ _ (by omega)).trans ((upK_o _ _ (by omega)).trans (h0))))))) ?_
  exact VW.vret d_Transaction_init_76 rfl (by decide) (by decide) ex_rf
end
