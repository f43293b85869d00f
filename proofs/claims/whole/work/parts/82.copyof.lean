section
variable {K : KT} {P : PT} {J I : IT}
theorem sp_copyOf {b o n N : Nat} {z : Int} (hb : K b = some (100, n)) (ho : K o = none) (hz : z = (N : Int)) (hN : n < N) (hN2 : N ≤ 60000000) : Sp m_java_util_Arrays_copyOf false ({ frames := 1, cells := 1, slots := N, locals := 40 } : Room) (ex (upK K o (100, N)) P J (cpyI I b 0 o 0 n) (.inl (some (vR (some o))))) K P J I [vR (some b), vI z] := by
  refine Sp.ofV (by decide) (Or.inr rfl) rfl ?_
  have ne : b ≠ o := fun z => by rw [z, ho] at hb; cases hb
  have hb' : upK K o (100, N) b = some (100, n) := (upK_o _ _ ne).trans hb
  have ho' : upK K o (100, N) o = some (100, N) := upK_eq _ _ _
  have mn : (if z < (n : Int) then z else (n : Int)) = n := if_neg (by omega)
  refine VW.iload_n (pc' := 1) d_java_util_Arrays_copyOf_0 rfl rfl ?_
  refine VW.aload_n (pc' := 2) d_java_util_Arrays_copyOf_1 rfl rfl ?_
  refine VW.alen (pc' := 3) d_java_util_Arrays_copyOf_2 rfl (by first | exact hb' | exact hb) (by simp) (by omega) ?_
  refine VW.icmp_ne (tgt := 14) (pc' := 6) d_java_util_Arrays_copyOf_3 rfl rfl (fun c3 => ?_) (fun c3 => ?_)
  · refine VW.iload_n (pc' := 15) d_java_util_Arrays_copyOf_14 rfl rfl ?_
    refine VW.newI o (N := N) (pc' := 17) d_java_util_Arrays_copyOf_15 rfl kw_arrayClass_int hz hN2 ho (Nat.le_of_eq (Nat.zero_add _)) (Nat.le_of_eq (Nat.zero_add _)) ?_
    refine VW.astore_n (pc' := 18) d_java_util_Arrays_copyOf_17 rfl rfl ?_
    refine VW.aload_n (pc' := 19) d_java_util_Arrays_copyOf_18 rfl rfl ?_
    refine VW.iconst (pc' := 20) d_java_util_Arrays_copyOf_19 rfl (by decide) ?_
    refine VW.aload_n (pc' := 21) d_java_util_Arrays_copyOf_20 rfl rfl ?_
    refine VW.iconst (pc' := 22) d_java_util_Arrays_copyOf_21 rfl (by decide) ?_
    refine VW.aload_n (pc' := 23) d_java_util_Arrays_copyOf_22 rfl rfl ?_
    refine VW.alen (pc' := 24) d_java_util_Arrays_copyOf_23 rfl (by first | exact hb' | exact hb) (by simp) (by omega) ?_
    refine VW.iload_n (pc' := 25) d_java_util_Arrays_copyOf_24 rfl rfl ?_
    refine VW.mm (pc' := 28) false rfl d_java_util_Arrays_copyOf_25 rfl lk_java_util_Arrays_304 rfl rfl (Nat.le_of_eq (Nat.zero_add _)) (Nat.le_of_eq (Nat.zero_add _)) ?_
    rw [if_neg (show ¬ false = true by decide), mn]
    refine VW.copyi (pc' := 31) d_java_util_Arrays_copyOf_28 rfl lk_java_util_Arrays_150 hb' ho' (by omega) (by omega) (by omega) (by omega) (by omega) rfl rfl ?_
    refine VW.aload_n (pc' := 32) d_java_util_Arrays_copyOf_31 rfl rfl ?_
    exact VW.aret d_java_util_Arrays_copyOf_32 rfl (by first | exact Or.inl ⟨_, rfl⟩ | exact Or.inr ⟨_, rfl⟩) (Nat.le_of_eq (Nat.zero_add _)) (Nat.le_of_eq (Nat.zero_add _)) ex_rf
  · exfalso; omega
end
