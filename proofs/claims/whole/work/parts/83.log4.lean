section
variable {K : KT} {P : PT} {J I : IT}
/-- a record more -/
def lgAdd (I : IT) (g d : Nat) (k i t y : Int) : IT := up2 (filI (up2 (up2 (up2 (up2 I d (I g 0 * 8) k) d (I g 0 * 8 + 1) i) d (I g 0 * 8 + 2) t) d (I g 0 * 8 + 3) y) d (I g 0 * 8 + 4) (I g 0 * 8 + 8) (-2147483648)) g 0 (I g 0 + 1)
theorem LgW.gd {g d n c m : Nat} (h : LgW K P g d n c m) : g ≠ d := fun z => by have := h.1.symm.trans (z ▸ h.2.1.2); cases this
theorem lg_add {ce sz : Nat} {g d n c m : Nat} {k i t y : Int} (hG : LgW K P g d n c m) (h0 : 0 ≤ I g 0 ∧ I g 0 * 8 + 8 ≤ n ∧ n ≤ 1048576) : VW m_Log_add false ({ frames := 2, cells := ce, slots := sz, locals := 90 } : Room) (ex K P J (lgAdd I g d k i t y) (.inl none)) K P J I ce sz 40 [(0, vR (some g)), (1, vI k), (2, vI i), (3, vI t), (4, vI y), (5, vI (I g 0 * 8))] [] := by
  have ne := hG.gd
  refine VW.aload_n (pc' := 41) d_Log_add_40 rfl rfl ?_
  refine VW.gP (ci := 2) (T := T2) (N := 5) (k := 2) (k' := 2) (pc' := 44) d_Log_add_41 rfl lk_Log_11 in2 rfl rfl rfl rfl (by first | exact hG.1 | exact hG.2.1.2 | exact hG.2.2.1.2 | exact hG.2.2.2.2) (by first | exact hG.2.1.1 | exact hG.2.2.1.1 | exact hG.2.2.2.1 | rfl) ?_
  refine VW.iload (pc' := 46) d_Log_add_44 rfl rfl ?_
  refine VW.iload_n (pc' := 47) d_Log_add_46 rfl rfl ?_
  refine VW.iast (pc' := 48) d_Log_add_47 rfl (by first | exact hG.1 | exact hG.2.1.2 | exact hG.2.2.1.2 | exact hG.2.2.2.2) (by omega) (by omega) ?_
  refine VW.aload_n (pc' := 49) d_Log_add_48 rfl rfl ?_
  refine VW.gP (ci := 2) (T := T2) (N := 5) (k := 2) (k' := 2) (pc' := 52) d_Log_add_49 rfl lk_Log_11 in2 rfl rfl rfl rfl (by first | exact hG.1 | exact hG.2.1.2 | exact hG.2.2.1.2 | exact hG.2.2.2.2) (by first | exact hG.2.1.1 | exact hG.2.2.1.1 | exact hG.2.2.2.1 | rfl) ?_
  refine VW.iload (pc' := 54) d_Log_add_52 rfl rfl ?_
  refine VW.iconst (pc' := 55) d_Log_add_54 rfl (by decide) ?_
  refine VW.iadd (pc' := 56) d_Log_add_55 rfl (by omega) ?_
  refine VW.iload_n (pc' := 57) d_Log_add_56 rfl rfl ?_
  refine VW.iast (pc' := 58) d_Log_add_57 rfl (by first | exact hG.1 | exact hG.2.1.2 | exact hG.2.2.1.2 | exact hG.2.2.2.2) (by omega) (by omega) ?_
  refine VW.aload_n (pc' := 59) d_Log_add_58 rfl rfl ?_
  refine VW.gP (ci := 2) (T := T2) (N := 5) (k := 2) (k' := 2) (pc' := 62) d_Log_add_59 rfl lk_Log_11 in2 rfl rfl rfl rfl (by first | exact hG.1 | exact hG.2.1.2 | exact hG.2.2.1.2 | exact hG.2.2.2.2) (by first | exact hG.2.1.1 | exact hG.2.2.1.1 | exact hG.2.2.2.1 | rfl) ?_
  refine VW.iload (pc' := 64) d_Log_add_62 rfl rfl ?_
  refine VW.iconst (pc' := 65) d_Log_add_64 rfl (by decide) ?_
  refine VW.iadd (pc' := 66) d_Log_add_65 rfl (by omega) ?_
  refine VW.iload_n (pc' := 67) d_Log_add_66 rfl rfl ?_
  refine VW.iast (pc' := 68) d_Log_add_67 rfl (by first | exact hG.1 | exact hG.2.1.2 | exact hG.2.2.1.2 | exact hG.2.2.2.2) (by omega) (by omega) ?_
  refine VW.aload_n (pc' := 69) d_Log_add_68 rfl rfl ?_
  refine VW.gP (ci := 2) (T := T2) (N := 5) (k := 2) (k' := 2) (pc' := 72) d_Log_add_69 rfl lk_Log_11 in2 rfl rfl rfl rfl (by first | exact hG.1 | exact hG.2.1.2 | exact hG.2.2.1.2 | exact hG.2.2.2.2) (by first | exact hG.2.1.1 | exact hG.2.2.1.1 | exact hG.2.2.2.1 | rfl) ?_
  refine VW.iload (pc' := 74) d_Log_add_72 rfl rfl ?_
  refine VW.iconst (pc' := 75) d_Log_add_74 rfl (by decide) ?_
  refine VW.iadd (pc' := 76) d_Log_add_75 rfl (by omega) ?_
  refine VW.iload (pc' := 78) d_Log_add_76 rfl rfl ?_
  refine VW.iast (pc' := 79) d_Log_add_78 rfl (by first | exact hG.1 | exact hG.2.1.2 | exact hG.2.2.1.2 | exact hG.2.2.2.2) (by omega) (by omega) ?_
  refine VW.aload_n (pc' := 80) d_Log_add_79 rfl rfl ?_
  refine VW.gP (ci := 2) (T := T2) (N := 5) (k := 2) (k' := 2) (pc' := 83) d_Log_add_80 rfl lk_Log_11 in2 rfl rfl rfl rfl (by first | exact hG.1 | exact hG.2.1.2 | exact hG.2.2.1.2 | exact hG.2.2.2.2) (by first | exact hG.2.1.1 | exact hG.2.2.1.1 | exact hG.2.2.2.1 | rfl) ?_
  refine VW.iload (pc' := 85) d_Log_add_83 rfl rfl ?_
  refine VW.iconst (pc' := 86) d_Log_add_85 rfl (by decide) ?_
  refine VW.iadd (pc' := 87) d_Log_add_86 rfl (by omega) ?_
  refine VW.iload (pc' := 89) d_Log_add_87 rfl rfl ?_
  refine VW.bipush (pc' := 91) d_Log_add_89 rfl (by decide) ?_
  refine VW.iadd (pc' := 92) d_Log_add_91 rfl (by omega) ?_
  refine VW.ldc (pc' := 94) (z := -2147483648) d_Log_add_92 rfl lk_Log_32 (by decide) (by decide) ?_
  refine VW.cS (pc' := 97) d_Log_add_94 rfl ms_java_util_Arrays_fill_IIIIV lk_Log_33 rfl rfl rfl (Nat.le_refl _) (Nat.le_refl _) (sp_fill4 hG.2.1.2 (by omega) (by omega) (by omega) (by omega)) rfl rfl ?_
  refine VW.aload_n (pc' := 98) d_Log_add_97 rfl rfl ?_
  refine VW.dup (pc' := 99) d_Log_add_98 rfl rfl ?_
  refine VW.gI (ci := 2) (T := T2) (N := 5) (k := 0) (k' := 0) (pc' := 102) d_Log_add_99 rfl lk_Log_22 in2 rfl rfl rfl rfl (by first | exact hG.1 | exact hG.2.1.2 | exact hG.2.2.1.2 | exact hG.2.2.2.2) ((if_neg (fun q => ne q.1)).trans ((up2_o _ _ _ _ ne).trans ((up2_o _ _ _ _ ne).trans ((up2_o _ _ _ _ ne).trans (up2_o _ _ _ _ ne))))) ?_
  refine VW.iconst (pc' := 103) d_Log_add_102 rfl (by decide) ?_
  refine VW.iadd (pc' := 104) d_Log_add_103 rfl (by omega) ?_
  refine VW.pI (ci := 2) (T := T2) (N := 5) (k := 0) (k' := 0) (ty := ty2) (pc' := 107) d_Log_add_104 rfl lk_Log_22 in2 tk2 nm2 rfl rfl rfl rfl rfl rfl (by first | exact hG.1 | exact hG.2.1.2 | exact hG.2.2.1.2 | exact hG.2.2.2.2) ?_
  exact VW.vret d_Log_add_107 rfl (Nat.le_refl _) (Nat.le_refl _) ex_rf
theorem sp_Log_add0 {g d n c m : Nat} {k i t y : Int} (hG : LgW K P g d n c m) (h0 : 0 ≤ I g 0 ∧ I g 0 * 8 ≤ n ∧ n ≤ 524288) (hg : I g 0 * 8 + 8 ≤ n) : Sp m_Log_add false ({ frames := 2, cells := 0, slots := 0, locals := 90 } : Room) (ex K P J (lgAdd I g d k i t y) (.inl none)) K P J I [vR (some g), vI k, vI i, vI t, vI y] := by
  refine Sp.ofV (by decide) (Or.inr rfl) rfl ?_
  have e := lg_add (ce := 0) (sz := 0) (J := J) (I := I) (k := k) (i := i) (t := t) (y := y) hG (by omega)
  refine VW.aload_n (pc' := 1) d_Log_add_0 rfl rfl ?_
  refine VW.gI (ci := 2) (T := T2) (N := 5) (k := 0) (k' := 0) (pc' := 4) d_Log_add_1 rfl lk_Log_22 in2 rfl rfl rfl rfl (by first | exact hG.1 | exact hG.2.1.2 | exact hG.2.2.1.2 | exact hG.2.2.2.2) (by first | exact hG.2.1.1 | exact hG.2.2.1.1 | exact hG.2.2.2.1 | rfl) ?_
  refine VW.bipush (pc' := 6) d_Log_add_4 rfl (by decide) ?_
  refine VW.imul (pc' := 7) d_Log_add_6 rfl (by omega) ?_
  refine VW.istore (pc' := 9) d_Log_add_7 rfl rfl ?_
  refine VW.iload (pc' := 11) d_Log_add_9 rfl rfl ?_
  refine VW.bipush (pc' := 13) d_Log_add_11 rfl (by decide) ?_
  refine VW.iadd (pc' := 14) d_Log_add_13 rfl (by omega) ?_
  refine VW.aload_n (pc' := 15) d_Log_add_14 rfl rfl ?_
  refine VW.gP (ci := 2) (T := T2) (N := 5) (k := 2) (k' := 2) (pc' := 18) d_Log_add_15 rfl lk_Log_11 in2 rfl rfl rfl rfl (by first | exact hG.1 | exact hG.2.1.2 | exact hG.2.2.1.2 | exact hG.2.2.2.2) (by first | exact hG.2.1.1 | exact hG.2.2.1.1 | exact hG.2.2.2.1 | rfl) ?_
  refine VW.alen (pc' := 19) d_Log_add_18 rfl (by first | exact hG.1 | exact hG.2.1.2 | exact hG.2.2.1.2 | exact hG.2.2.2.2) (by simp) (by omega) ?_
  refine VW.icmp_le (tgt := 40) (pc' := 22) d_Log_add_19 rfl rfl (fun c19 => ?_) (fun c19 => ?_)
  · refine VW.nrm ?_
    exact e
  · exfalso; omega
theorem sp_Log_add1 {g d n c m : Nat} {o : Nat} {k i t y : Int} (hG : LgW K P g d n c m) (h0 : 0 ≤ I g 0 ∧ I g 0 * 8 ≤ n ∧ n ≤ 524288) (hg : n < I g 0 * 8 + 8) (hn : 512 ≤ n) (ho : K o = none) : Sp m_Log_add false ({ frames := 2, cells := 1, slots := 2 * n, locals := 90 } : Room) (ex (upK K o (100, 2 * n)) (up2 P g 2 (some o)) J (lgAdd (cpyI I d 0 o 0 n) g o k i t y) (.inl none)) K P J I [vR (some g), vI k, vI i, vI t, vI y] := by
  refine Sp.ofV (by decide) (Or.inr rfl) rfl ?_
  have no : ∀ {q : Nat} {v : Nat × Nat}, K q = some v → q ≠ o := fun h z => by rw [z, ho] at h; cases h
  have k' : ∀ {q : Nat} {v : Nat × Nat}, K q = some v → (upK K o (100, 2 * n)) q = some v := fun h => (upK_o _ _ (no h)).trans h
  have hG' : LgW (upK K o (100, 2 * n)) (up2 P g 2 (some o)) g o (2 * n) c m := ⟨k' hG.1, ⟨up2_eq _ _ _ _, upK_eq _ _ _⟩, ⟨(if_neg (fun q => absurd q.2 (by decide))).trans hG.2.2.1.1, k' hG.2.2.1.2⟩, ⟨(if_neg (fun q => absurd q.2 (by decide))).trans hG.2.2.2.1, k' hG.2.2.2.2⟩⟩
  have eg : (cpyI I d 0 o 0 n) g 0 = I g 0 := if_neg (fun q => no hG.1 q.1)
  have hg' : (upK K o (100, 2 * n)) g = some (2, 0) := k' hG.1
  have e := lg_add (ce := 1) (sz := 2 * n) (J := J) (I := (cpyI I d 0 o 0 n)) (k := k) (i := i) (t := t) (y := y) hG' (by rw [eg]; omega)
  rw [eg] at e
  refine VW.aload_n (pc' := 1) d_Log_add_0 rfl rfl ?_
  refine VW.gI (ci := 2) (T := T2) (N := 5) (k := 0) (k' := 0) (pc' := 4) d_Log_add_1 rfl lk_Log_22 in2 rfl rfl rfl rfl (by first | exact hG.1 | exact hG.2.1.2 | exact hg') (by first | exact hG.2.1.1 | exact hG.2.2.1.1 | exact hG.2.2.2.1 | rfl) ?_
  refine VW.bipush (pc' := 6) d_Log_add_4 rfl (by decide) ?_
  refine VW.imul (pc' := 7) d_Log_add_6 rfl (by omega) ?_
  refine VW.istore (pc' := 9) d_Log_add_7 rfl rfl ?_
  refine VW.iload (pc' := 11) d_Log_add_9 rfl rfl ?_
  refine VW.bipush (pc' := 13) d_Log_add_11 rfl (by decide) ?_
  refine VW.iadd (pc' := 14) d_Log_add_13 rfl (by omega) ?_
  refine VW.aload_n (pc' := 15) d_Log_add_14 rfl rfl ?_
  refine VW.gP (ci := 2) (T := T2) (N := 5) (k := 2) (k' := 2) (pc' := 18) d_Log_add_15 rfl lk_Log_11 in2 rfl rfl rfl rfl (by first | exact hG.1 | exact hG.2.1.2 | exact hg') (by first | exact hG.2.1.1 | exact hG.2.2.1.1 | exact hG.2.2.2.1 | rfl) ?_
  refine VW.alen (pc' := 19) d_Log_add_18 rfl (by first | exact hG.1 | exact hG.2.1.2 | exact hg') (by simp) (by omega) ?_
  refine VW.icmp_le (tgt := 40) (pc' := 22) d_Log_add_19 rfl rfl (fun c19 => ?_) (fun c19 => ?_)
  · refine VW.nrm ?_
    first | (exfalso; omega) | (rw [show (0 + ({ frames := 1, cells := 1, slots := 2 * n, locals := 40 } : Room).slots) = 2 * n from Nat.zero_add _]; exact e)
  · refine VW.aload_n (pc' := 23) d_Log_add_22 rfl rfl ?_
    refine VW.aload_n (pc' := 24) d_Log_add_23 rfl rfl ?_
    refine VW.gP (ci := 2) (T := T2) (N := 5) (k := 2) (k' := 2) (pc' := 27) d_Log_add_24 rfl lk_Log_11 in2 rfl rfl rfl rfl (by first | exact hG.1 | exact hG.2.1.2 | exact hg') (by first | exact hG.2.1.1 | exact hG.2.2.1.1 | exact hG.2.2.2.1 | rfl) ?_
    refine VW.iconst (pc' := 28) d_Log_add_27 rfl (by decide) ?_
    refine VW.aload_n (pc' := 29) d_Log_add_28 rfl rfl ?_
    refine VW.gP (ci := 2) (T := T2) (N := 5) (k := 2) (k' := 2) (pc' := 32) d_Log_add_29 rfl lk_Log_11 in2 rfl rfl rfl rfl (by first | exact hG.1 | exact hG.2.1.2 | exact hg') (by first | exact hG.2.1.1 | exact hG.2.2.1.1 | exact hG.2.2.2.1 | rfl) ?_
    refine VW.alen (pc' := 33) d_Log_add_32 rfl (by first | exact hG.1 | exact hG.2.1.2 | exact hg') (by simp) (by omega) ?_
    refine VW.imul (pc' := 34) d_Log_add_33 rfl (by omega) ?_
    refine VW.cS (pc' := 37) d_Log_add_34 rfl ms_java_util_Arrays_copyOf lk_Log_26 rfl rfl rfl (by exact Nat.le_of_eq (Nat.zero_add _)) (by exact Nat.le_of_eq (Nat.zero_add _)) (sp_copyOf (N := 2 * n) hG.2.1.2 ho (by omega) (by omega) (by omega)) rfl rfl ?_
    refine VW.pP (ci := 2) (T := T2) (N := 5) (k := 2) (k' := 2) (ty := ty2) (pc' := 40) d_Log_add_37 rfl lk_Log_11 in2 tk2 nm2 rfl rfl rfl rfl rfl (by first | exact Or.inl ⟨_, rfl⟩ | exact Or.inr ⟨_, rfl⟩) (by first | exact hG.1 | exact hG.2.1.2 | exact hg') ?_
    refine VW.nrm ?_
    first | (exfalso; omega) | (rw [show (0 + ({ frames := 1, cells := 1, slots := 2 * n, locals := 40 } : Room).slots) = 2 * n from Nat.zero_add _]; exact e)
end
