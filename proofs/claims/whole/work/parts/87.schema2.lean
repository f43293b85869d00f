section
variable {K : KT} {P : PT} {J I : IT}
theorem ScW.ne {s w c d t r v : Nat} (h : ScW K P s w c d t r v) : s ≠ w ∧ s ≠ c ∧ s ≠ d ∧ s ≠ v := by
  have f : ∀ {q : Nat} {z : Nat}, K q = some (100, z) → s ≠ q := fun e z => by have := h.1.symm.trans (z ▸ e); cases this
  exact ⟨f h.2.1.2, f h.2.2.1.2, f h.2.2.2.1.2, f h.2.2.2.2.2.2.2⟩
theorem sp_Schema_addTable {s w c d t r v : Nat} {a : Int} (hG : ScW K P s w c d t r v) (h6 : 0 ≤ I s 0 ∧ I s 0 < 6) : Sp m_Schema_addTable false (rmv 0 0) (ex K P J (up2 (up2 I w (I s 0) a) s 0 (I s 0 + 1)) (.inl (some (vI (I s 0 + 1 - 1))))) K P J I [vR (some s), vI a] := by
  refine Sp.ofV (by decide) (Or.inr rfl) rfl ?_
  have ne := hG.ne.1
  refine VW.aload_n (pc' := 1) d_Schema_addTable_0 rfl rfl ?_
  refine VW.gP (ci := 7) (T := T7) (N := 8) (k := 1) (k' := 1) (pc' := 4) d_Schema_addTable_1 rfl lk_Schema_9 in7 rfl rfl rfl rfl (by first | exact hG.1 | exact hG.2.1.2 | exact hG.2.2.1.2 | exact hG.2.2.2.1.2 | exact hG.2.2.2.2.1.2 | exact hG.2.2.2.2.2.1.2 | exact hG.2.2.2.2.2.2.2) (by first | exact hG.2.1.1 | exact hG.2.2.1.1 | exact hG.2.2.2.1.1 | exact hG.2.2.2.2.1.1 | exact hG.2.2.2.2.2.1.1 | exact hG.2.2.2.2.2.2.1 | rfl) ?_
  refine VW.aload_n (pc' := 5) d_Schema_addTable_4 rfl rfl ?_
  refine VW.gI (ci := 7) (T := T7) (N := 8) (k := 0) (k' := 0) (pc' := 8) d_Schema_addTable_5 rfl lk_Schema_36 in7 rfl rfl rfl rfl (by first | exact hG.1 | exact hG.2.1.2 | exact hG.2.2.1.2 | exact hG.2.2.2.1.2 | exact hG.2.2.2.2.1.2 | exact hG.2.2.2.2.2.1.2 | exact hG.2.2.2.2.2.2.2) (by first | exact hG.2.1.1 | exact hG.2.2.1.1 | exact hG.2.2.2.1.1 | exact hG.2.2.2.2.1.1 | exact hG.2.2.2.2.2.1.1 | exact hG.2.2.2.2.2.2.1 | rfl) ?_
  refine VW.iload_n (pc' := 9) d_Schema_addTable_8 rfl rfl ?_
  refine VW.iast (pc' := 10) d_Schema_addTable_9 rfl (by first | exact hG.1 | exact hG.2.1.2 | exact hG.2.2.1.2 | exact hG.2.2.2.1.2 | exact hG.2.2.2.2.1.2 | exact hG.2.2.2.2.2.1.2 | exact hG.2.2.2.2.2.2.2) (by omega) (by omega) ?_
  refine VW.aload_n (pc' := 11) d_Schema_addTable_10 rfl rfl ?_
  refine VW.dup (pc' := 12) d_Schema_addTable_11 rfl rfl ?_
  refine VW.gI (ci := 7) (T := T7) (N := 8) (k := 0) (k' := 0) (pc' := 15) d_Schema_addTable_12 rfl lk_Schema_36 in7 rfl rfl rfl rfl (by first | exact hG.1 | exact hG.2.1.2 | exact hG.2.2.1.2 | exact hG.2.2.2.1.2 | exact hG.2.2.2.2.1.2 | exact hG.2.2.2.2.2.1.2 | exact hG.2.2.2.2.2.2.2) (up2_o _ _ _ _ ne) ?_
  refine VW.iconst (pc' := 16) d_Schema_addTable_15 rfl (by decide) ?_
  refine VW.iadd (pc' := 17) d_Schema_addTable_16 rfl (by omega) ?_
  refine VW.pI (ci := 7) (T := T7) (N := 8) (k := 0) (k' := 0) (ty := ty7) (pc' := 20) d_Schema_addTable_17 rfl lk_Schema_36 in7 tk7 nm7 rfl rfl rfl rfl rfl rfl (by first | exact hG.1 | exact hG.2.1.2 | exact hG.2.2.1.2 | exact hG.2.2.2.1.2 | exact hG.2.2.2.2.1.2 | exact hG.2.2.2.2.2.1.2 | exact hG.2.2.2.2.2.2.2) ?_
  refine VW.aload_n (pc' := 21) d_Schema_addTable_20 rfl rfl ?_
  refine VW.gI (ci := 7) (T := T7) (N := 8) (k := 0) (k' := 0) (pc' := 24) d_Schema_addTable_21 rfl lk_Schema_36 in7 rfl rfl rfl rfl (by first | exact hG.1 | exact hG.2.1.2 | exact hG.2.2.1.2 | exact hG.2.2.2.1.2 | exact hG.2.2.2.2.1.2 | exact hG.2.2.2.2.2.1.2 | exact hG.2.2.2.2.2.2.2) (up2_eq _ _ _ _) ?_
  refine VW.iconst (pc' := 25) d_Schema_addTable_24 rfl (by decide) ?_
  refine VW.isub (pc' := 26) d_Schema_addTable_25 rfl (by omega) ?_
  exact VW.iret d_Schema_addTable_26 rfl rfl (Nat.zero_le _) (Nat.zero_le _) ex_rf
theorem sp_Schema_addVeil {s w c d t r v : Nat} {a b e f g : Int} (hG : ScW K P s w c d t r v) (h6 : 0 ≤ I s 6 ∧ I s 6 < 12) : Sp m_Schema_addVeil false (rmv 0 0) (ex K P J (up2 (up2 (up2 (up2 (up2 (up2 I v (I s 6 * 5) a) v (I s 6 * 5 + 1) b) v (I s 6 * 5 + 2) e) v (I s 6 * 5 + 3) f) v (I s 6 * 5 + 4) g) s 6 (I s 6 + 1)) (.inl (some (vI (I s 6 + 1))))) K P J I [vR (some s), vI a, vI b, vI e, vI f, vI g] := by
  refine Sp.ofV (by decide) (Or.inr rfl) rfl ?_
  have ne := hG.ne.2.2.2
  refine VW.aload_n (pc' := 1) d_Schema_addVeil_0 rfl rfl ?_
  refine VW.gI (ci := 7) (T := T7) (N := 8) (k := 6) (k' := 6) (pc' := 4) d_Schema_addVeil_1 rfl lk_Schema_44 in7 rfl rfl rfl rfl (by first | exact hG.1 | exact hG.2.1.2 | exact hG.2.2.1.2 | exact hG.2.2.2.1.2 | exact hG.2.2.2.2.1.2 | exact hG.2.2.2.2.2.1.2 | exact hG.2.2.2.2.2.2.2) (by first | exact hG.2.1.1 | exact hG.2.2.1.1 | exact hG.2.2.2.1.1 | exact hG.2.2.2.2.1.1 | exact hG.2.2.2.2.2.1.1 | exact hG.2.2.2.2.2.2.1 | rfl) ?_
  refine VW.iconst (pc' := 5) d_Schema_addVeil_4 rfl (by decide) ?_
  refine VW.imul (pc' := 6) d_Schema_addVeil_5 rfl (by omega) ?_
  refine VW.istore (pc' := 8) d_Schema_addVeil_6 rfl rfl ?_
  refine VW.aload_n (pc' := 9) d_Schema_addVeil_8 rfl rfl ?_
  refine VW.gP (ci := 7) (T := T7) (N := 8) (k := 7) (k' := 7) (pc' := 12) d_Schema_addVeil_9 rfl lk_Schema_27 in7 rfl rfl rfl rfl (by first | exact hG.1 | exact hG.2.1.2 | exact hG.2.2.1.2 | exact hG.2.2.2.1.2 | exact hG.2.2.2.2.1.2 | exact hG.2.2.2.2.2.1.2 | exact hG.2.2.2.2.2.2.2) (by first | exact hG.2.1.1 | exact hG.2.2.1.1 | exact hG.2.2.2.1.1 | exact hG.2.2.2.2.1.1 | exact hG.2.2.2.2.2.1.1 | exact hG.2.2.2.2.2.2.1 | rfl) ?_
  refine VW.iload (pc' := 14) d_Schema_addVeil_12 rfl rfl ?_
  refine VW.iload_n (pc' := 15) d_Schema_addVeil_14 rfl rfl ?_
  refine VW.iast (pc' := 16) d_Schema_addVeil_15 rfl (by first | exact hG.1 | exact hG.2.1.2 | exact hG.2.2.1.2 | exact hG.2.2.2.1.2 | exact hG.2.2.2.2.1.2 | exact hG.2.2.2.2.2.1.2 | exact hG.2.2.2.2.2.2.2) (by omega) (by omega) ?_
  refine VW.aload_n (pc' := 17) d_Schema_addVeil_16 rfl rfl ?_
  refine VW.gP (ci := 7) (T := T7) (N := 8) (k := 7) (k' := 7) (pc' := 20) d_Schema_addVeil_17 rfl lk_Schema_27 in7 rfl rfl rfl rfl (by first | exact hG.1 | exact hG.2.1.2 | exact hG.2.2.1.2 | exact hG.2.2.2.1.2 | exact hG.2.2.2.2.1.2 | exact hG.2.2.2.2.2.1.2 | exact hG.2.2.2.2.2.2.2) (by first | exact hG.2.1.1 | exact hG.2.2.1.1 | exact hG.2.2.2.1.1 | exact hG.2.2.2.2.1.1 | exact hG.2.2.2.2.2.1.1 | exact hG.2.2.2.2.2.2.1 | rfl) ?_
  refine VW.iload (pc' := 22) d_Schema_addVeil_20 rfl rfl ?_
  refine VW.iconst (pc' := 23) d_Schema_addVeil_22 rfl (by decide) ?_
  refine VW.iadd (pc' := 24) d_Schema_addVeil_23 rfl (by omega) ?_
  refine VW.iload_n (pc' := 25) d_Schema_addVeil_24 rfl rfl ?_
  refine VW.iast (pc' := 26) d_Schema_addVeil_25 rfl (by first | exact hG.1 | exact hG.2.1.2 | exact hG.2.2.1.2 | exact hG.2.2.2.1.2 | exact hG.2.2.2.2.1.2 | exact hG.2.2.2.2.2.1.2 | exact hG.2.2.2.2.2.2.2) (by omega) (by omega) ?_
  refine VW.aload_n (pc' := 27) d_Schema_addVeil_26 rfl rfl ?_
  refine VW.gP (ci := 7) (T := T7) (N := 8) (k := 7) (k' := 7) (pc' := 30) d_Schema_addVeil_27 rfl lk_Schema_27 in7 rfl rfl rfl rfl (by first | exact hG.1 | exact hG.2.1.2 | exact hG.2.2.1.2 | exact hG.2.2.2.1.2 | exact hG.2.2.2.2.1.2 | exact hG.2.2.2.2.2.1.2 | exact hG.2.2.2.2.2.2.2) (by first | exact hG.2.1.1 | exact hG.2.2.1.1 | exact hG.2.2.2.1.1 | exact hG.2.2.2.2.1.1 | exact hG.2.2.2.2.2.1.1 | exact hG.2.2.2.2.2.2.1 | rfl) ?_
  refine VW.iload (pc' := 32) d_Schema_addVeil_30 rfl rfl ?_
  refine VW.iconst (pc' := 33) d_Schema_addVeil_32 rfl (by decide) ?_
  refine VW.iadd (pc' := 34) d_Schema_addVeil_33 rfl (by omega) ?_
  refine VW.iload_n (pc' := 35) d_Schema_addVeil_34 rfl rfl ?_
  refine VW.iast (pc' := 36) d_Schema_addVeil_35 rfl (by first | exact hG.1 | exact hG.2.1.2 | exact hG.2.2.1.2 | exact hG.2.2.2.1.2 | exact hG.2.2.2.2.1.2 | exact hG.2.2.2.2.2.1.2 | exact hG.2.2.2.2.2.2.2) (by omega) (by omega) ?_
  refine VW.aload_n (pc' := 37) d_Schema_addVeil_36 rfl rfl ?_
  refine VW.gP (ci := 7) (T := T7) (N := 8) (k := 7) (k' := 7) (pc' := 40) d_Schema_addVeil_37 rfl lk_Schema_27 in7 rfl rfl rfl rfl (by first | exact hG.1 | exact hG.2.1.2 | exact hG.2.2.1.2 | exact hG.2.2.2.1.2 | exact hG.2.2.2.2.1.2 | exact hG.2.2.2.2.2.1.2 | exact hG.2.2.2.2.2.2.2) (by first | exact hG.2.1.1 | exact hG.2.2.1.1 | exact hG.2.2.2.1.1 | exact hG.2.2.2.2.1.1 | exact hG.2.2.2.2.2.1.1 | exact hG.2.2.2.2.2.2.1 | rfl) ?_
  refine VW.iload (pc' := 42) d_Schema_addVeil_40 rfl rfl ?_
  refine VW.iconst (pc' := 43) d_Schema_addVeil_42 rfl (by decide) ?_
  refine VW.iadd (pc' := 44) d_Schema_addVeil_43 rfl (by omega) ?_
  refine VW.iload (pc' := 46) d_Schema_addVeil_44 rfl rfl ?_
  refine VW.iast (pc' := 47) d_Schema_addVeil_46 rfl (by first | exact hG.1 | exact hG.2.1.2 | exact hG.2.2.1.2 | exact hG.2.2.2.1.2 | exact hG.2.2.2.2.1.2 | exact hG.2.2.2.2.2.1.2 | exact hG.2.2.2.2.2.2.2) (by omega) (by omega) ?_
  refine VW.aload_n (pc' := 48) d_Schema_addVeil_47 rfl rfl ?_
  refine VW.gP (ci := 7) (T := T7) (N := 8) (k := 7) (k' := 7) (pc' := 51) d_Schema_addVeil_48 rfl lk_Schema_27 in7 rfl rfl rfl rfl (by first | exact hG.1 | exact hG.2.1.2 | exact hG.2.2.1.2 | exact hG.2.2.2.1.2 | exact hG.2.2.2.2.1.2 | exact hG.2.2.2.2.2.1.2 | exact hG.2.2.2.2.2.2.2) (by first | exact hG.2.1.1 | exact hG.2.2.1.1 | exact hG.2.2.2.1.1 | exact hG.2.2.2.2.1.1 | exact hG.2.2.2.2.2.1.1 | exact hG.2.2.2.2.2.2.1 | rfl) ?_
  refine VW.iload (pc' := 53) d_Schema_addVeil_51 rfl rfl ?_
  refine VW.iconst (pc' := 54) d_Schema_addVeil_53 rfl (by decide) ?_
  refine VW.iadd (pc' := 55) d_Schema_addVeil_54 rfl (by omega) ?_
  refine VW.iload (pc' := 57) d_Schema_addVeil_55 rfl rfl ?_
  refine VW.iast (pc' := 58) d_Schema_addVeil_57 rfl (by first | exact hG.1 | exact hG.2.1.2 | exact hG.2.2.1.2 | exact hG.2.2.2.1.2 | exact hG.2.2.2.2.1.2 | exact hG.2.2.2.2.2.1.2 | exact hG.2.2.2.2.2.2.2) (by omega) (by omega) ?_
  refine VW.aload_n (pc' := 59) d_Schema_addVeil_58 rfl rfl ?_
  refine VW.dup (pc' := 60) d_Schema_addVeil_59 rfl rfl ?_
  refine VW.gI (ci := 7) (T := T7) (N := 8) (k := 6) (k' := 6) (pc' := 63) d_Schema_addVeil_60 rfl lk_Schema_44 in7 rfl rfl rfl rfl (by first | exact hG.1 | exact hG.2.1.2 | exact hG.2.2.1.2 | exact hG.2.2.2.1.2 | exact hG.2.2.2.2.1.2 | exact hG.2.2.2.2.2.1.2 | exact hG.2.2.2.2.2.2.2) ((up2_o _ _ _ _ ne).trans ((up2_o _ _ _ _ ne).trans ((up2_o _ _ _ _ ne).trans ((up2_o _ _ _ _ ne).trans (up2_o _ _ _ _ ne))))) ?_
  refine VW.iconst (pc' := 64) d_Schema_addVeil_63 rfl (by decide) ?_
  refine VW.iadd (pc' := 65) d_Schema_addVeil_64 rfl (by omega) ?_
  refine VW.pI (ci := 7) (T := T7) (N := 8) (k := 6) (k' := 6) (ty := ty7) (pc' := 68) d_Schema_addVeil_65 rfl lk_Schema_44 in7 tk7 nm7 rfl rfl rfl rfl rfl rfl (by first | exact hG.1 | exact hG.2.1.2 | exact hG.2.2.1.2 | exact hG.2.2.2.1.2 | exact hG.2.2.2.2.1.2 | exact hG.2.2.2.2.2.1.2 | exact hG.2.2.2.2.2.2.2) ?_
  refine VW.aload_n (pc' := 69) d_Schema_addVeil_68 rfl rfl ?_
  refine VW.gI (ci := 7) (T := T7) (N := 8) (k := 6) (k' := 6) (pc' := 72) d_Schema_addVeil_69 rfl lk_Schema_44 in7 rfl rfl rfl rfl (by first | exact hG.1 | exact hG.2.1.2 | exact hG.2.2.1.2 | exact hG.2.2.2.1.2 | exact hG.2.2.2.2.1.2 | exact hG.2.2.2.2.2.1.2 | exact hG.2.2.2.2.2.2.2) (up2_eq _ _ _ _) ?_
  exact VW.iret d_Schema_addVeil_72 rfl rfl (Nat.zero_le _) (Nat.zero_le _) ex_rf
end
