section
variable {K : KT} {P : PT} {J I : IT}
theorem sp_java_util_AbstractCollection_init {o : Nat} : Sp m_java_util_AbstractCollection_init false (rmv 1 40) (ex K P J I (.inl none)) K P J I [vR (some o)] := by
  refine Sp.ofV (by decide) (Or.inr rfl) rfl ?_
  refine VW.aload_n (pc' := 1) d_java_util_AbstractCollection_init_0 rfl rfl ?_
  refine VW.objI (pc' := 4) d_java_util_AbstractCollection_init_1 rfl lk_java_util_AbstractCollection_1 rfl rfl rfl ?_
  exact VW.vret d_java_util_AbstractCollection_init_4 rfl (Nat.zero_le _) (Nat.zero_le _) ex_rf
theorem sp_java_util_AbstractList_init {o : Nat} (ho : K o = some (12, 0)) : Sp m_java_util_AbstractList_init false (rmv 2 80) (ex K P J (up2 I o 0 0) (.inl none)) K P J I [vR (some o)] := by
  refine Sp.ofV (by decide) (Or.inr rfl) rfl ?_
  refine VW.aload_n (pc' := 1) d_java_util_AbstractList_init_0 rfl rfl ?_
  refine VW.cI (pc' := 4) d_java_util_AbstractList_init_1 rfl mi_java_util_AbstractCollection_init lk_java_util_AbstractList_1 rfl rfl rfl (Nat.le_refl _) (Nat.le_refl _) (sp_java_util_AbstractCollection_init) rfl rfl ?_
  refine VW.aload_n (pc' := 5) d_java_util_AbstractList_init_4 rfl rfl ?_
  refine VW.iconst (pc' := 6) d_java_util_AbstractList_init_5 rfl (by decide) ?_
  refine VW.pI (ci := 12) (T := T12) (N := 3) (k := 0) (k' := 0) (ty := ty12) (pc' := 9) d_java_util_AbstractList_init_6 rfl lk_java_util_AbstractList_7 in12 tk12 nm12 rfl rfl rfl rfl rfl rfl (by assumption) ?_
  exact VW.vret d_java_util_AbstractList_init_9 rfl (Nat.zero_le _) (Nat.zero_le _) ex_rf
theorem sp_java_util_ArrayList_init {o : Nat} (ho : K o = some (12, 0)) : Sp m_java_util_ArrayList_init false (rmv 3 120) (ex K (up2 P o 1 (some 999)) J (up2 I o 0 0) (.inl none)) K P J I [vR (some o)] := by
  refine Sp.ofV (by decide) (Or.inr rfl) rfl ?_
  refine VW.aload_n (pc' := 1) d_java_util_ArrayList_init_0 rfl rfl ?_
  refine VW.cI (pc' := 4) d_java_util_ArrayList_init_1 rfl mi_java_util_AbstractList_init lk_java_util_ArrayList_1 rfl rfl rfl (Nat.le_refl _) (Nat.le_refl _) (sp_java_util_AbstractList_init ho) rfl rfl ?_
  refine VW.aload_n (pc' := 5) d_java_util_ArrayList_init_4 rfl rfl ?_
  refine VW.gets9 (pc' := 8) d_java_util_ArrayList_init_5 rfl lk_java_util_ArrayList_39 ?_
  refine VW.pP (ci := 12) (T := T12) (N := 3) (k := 1) (k' := 1) (ty := ty12) (pc' := 11) d_java_util_ArrayList_init_8 rfl lk_java_util_ArrayList_9 in12 tk12 nm12 rfl rfl rfl rfl rfl (by first | exact Or.inl ⟨_, rfl⟩ | exact Or.inr ⟨_, rfl⟩) (by assumption) ?_
  exact VW.vret d_java_util_ArrayList_init_11 rfl (Nat.zero_le _) (Nat.zero_le _) ex_rf
theorem sp_java_util_ArrayList_size {o : Nat} (ho : K o = some (12, 0)) : Sp m_java_util_ArrayList_size false (rmv 0 0) (ex K P J I (.inl (some (vI (I o 2))))) K P J I [vR (some o)] := by
  refine Sp.ofV (by decide) (Or.inr rfl) rfl ?_
  refine VW.aload_n (pc' := 1) d_java_util_ArrayList_size_0 rfl rfl ?_
  refine VW.gI (ci := 12) (T := T12) (N := 3) (k := 2) (k' := 2) (pc' := 4) d_java_util_ArrayList_size_1 rfl lk_java_util_ArrayList_48 in12 rfl rfl rfl rfl (by assumption) (by first | assumption | (simp [up2] <;> rfl) | rfl) ?_
  exact VW.iret d_java_util_ArrayList_size_4 rfl rfl (Nat.zero_le _) (Nat.zero_le _) ex_rf
theorem sp_java_util_ArrayList_elementData {o d n : Nat} {i : Int} (hA : AlW K P o d n) (hi : 0 ≤ i ∧ i < n) : Sp m_java_util_ArrayList_elementData false (rmv 0 0) (ex K P J I (.inl (some (vR (P d i))))) K P J I [vR (some o), vI i] := by
  refine Sp.ofV (by decide) (Or.inr rfl) rfl ?_
  refine VW.aload_n (pc' := 1) d_java_util_ArrayList_elementData_0 rfl rfl ?_
  refine VW.gP (ci := 12) (T := T12) (N := 3) (k := 1) (k' := 1) (pc' := 4) d_java_util_ArrayList_elementData_1 rfl lk_java_util_ArrayList_9 in12 rfl rfl rfl rfl (by first | exact hA.1 | exact hA.2.2 | assumption) (by first | exact hA.2.1 | rfl) ?_
  refine VW.iload_n (pc' := 5) d_java_util_ArrayList_elementData_4 rfl rfl ?_
  refine VW.old (pc' := 6) d_java_util_ArrayList_elementData_5 rfl (by first | exact hA.1 | exact hA.2.2 | assumption) (by omega) (by omega) (by first | exact hA.2.1 | rfl) ?_
  exact VW.aret d_java_util_ArrayList_elementData_6 rfl (by first | exact Or.inl ⟨_, rfl⟩ | exact Or.inr ⟨_, rfl⟩) (Nat.zero_le _) (Nat.zero_le _) ex_rf
theorem sp_jdk_internal_util_Preconditions_checkIndex {i n : Int} (hi : 0 ≤ i ∧ i < n) : Sp m_jdk_internal_util_Preconditions_checkIndex false (rmv 0 0) (ex K P J I (.inl (some (vI i)))) K P J I [vI i, vI n, vR none] := by
  refine Sp.ofV (by decide) (Or.inr rfl) rfl ?_
  refine VW.iload_n (pc' := 1) d_jdk_internal_util_Preconditions_checkIndex_0 rfl rfl ?_
  refine VW.if_lt (tgt := 9) (pc' := 4) d_jdk_internal_util_Preconditions_checkIndex_1 rfl rfl (fun c1 => ?_) (fun c1 => ?_)
  · exfalso; omega
  · refine VW.iload_n (pc' := 5) d_jdk_internal_util_Preconditions_checkIndex_4 rfl rfl ?_
    refine VW.iload_n (pc' := 6) d_jdk_internal_util_Preconditions_checkIndex_5 rfl rfl ?_
    refine VW.icmp_lt (tgt := 16) (pc' := 9) d_jdk_internal_util_Preconditions_checkIndex_6 rfl rfl (fun c6 => ?_) (fun c6 => ?_)
    · refine VW.iload_n (pc' := 17) d_jdk_internal_util_Preconditions_checkIndex_16 rfl rfl ?_
      exact VW.iret d_jdk_internal_util_Preconditions_checkIndex_17 rfl rfl (Nat.zero_le _) (Nat.zero_le _) ex_rf
    · exfalso; omega
theorem sp_java_util_Objects_checkIndex {i n : Int} (hi : 0 ≤ i ∧ i < n) : Sp m_java_util_Objects_checkIndex false (rmv 1 40) (ex K P J I (.inl (some (vI i)))) K P J I [vI i, vI n] := by
  refine Sp.ofV (by decide) (Or.inr rfl) rfl ?_
  refine VW.iload_n (pc' := 1) d_java_util_Objects_checkIndex_0 rfl rfl ?_
  refine VW.iload_n (pc' := 2) d_java_util_Objects_checkIndex_1 rfl rfl ?_
  refine VW.null (pc' := 3) d_java_util_Objects_checkIndex_2 rfl ?_
  refine VW.cS (pc' := 6) d_java_util_Objects_checkIndex_3 rfl ms_jdk_internal_util_Preconditions_checkIndex lk_java_util_Objects_105 rfl rfl rfl (Nat.le_refl _) (Nat.le_refl _) (sp_jdk_internal_util_Preconditions_checkIndex hi) rfl rfl ?_
  exact VW.iret d_java_util_Objects_checkIndex_6 rfl rfl (Nat.zero_le _) (Nat.zero_le _) ex_rf
theorem sp_java_util_ArrayList_get {o d n : Nat} {i : Int} (hA : AlW K P o d n) (hi : 0 ≤ i ∧ i < I o 2) (hn : I o 2 ≤ n) : Sp m_java_util_ArrayList_get false (rmv 2 80) (ex K P J I (.inl (some (vR (P d i))))) K P J I [vR (some o), vI i] := by
  refine Sp.ofV (by decide) (Or.inr rfl) rfl ?_
  refine VW.iload_n (pc' := 1) d_java_util_ArrayList_get_0 rfl rfl ?_
  refine VW.aload_n (pc' := 2) d_java_util_ArrayList_get_1 rfl rfl ?_
  refine VW.gI (ci := 12) (T := T12) (N := 3) (k := 2) (k' := 2) (pc' := 5) d_java_util_ArrayList_get_2 rfl lk_java_util_ArrayList_48 in12 rfl rfl rfl rfl (by first | exact hA.1 | exact hA.2.2 | assumption) (by first | exact hA.2.1 | rfl) ?_
  refine VW.cS (pc' := 8) d_java_util_ArrayList_get_5 rfl ms_java_util_Objects_checkIndex lk_java_util_ArrayList_118 rfl rfl rfl (Nat.le_refl _) (Nat.le_refl _) (sp_java_util_Objects_checkIndex hi) rfl rfl ?_
  refine VW.pop (pc' := 9) d_java_util_ArrayList_get_8 rfl rfl ?_
  refine VW.aload_n (pc' := 10) d_java_util_ArrayList_get_9 rfl rfl ?_
  refine VW.iload_n (pc' := 11) d_java_util_ArrayList_get_10 rfl rfl ?_
  refine VW.cV (ci := 12) (T := T12) (N := 3) (pc' := 14) d_java_util_ArrayList_get_11 rfl mv_java_util_ArrayList_elementData lk_java_util_ArrayList_123 rfl (by first | exact hA.1 | exact hA.2.2 | assumption) rfl rfl rfl (Nat.le_refl _) (Nat.le_refl _) (sp_java_util_ArrayList_elementData hA (by omega)) rfl rfl ?_
  exact VW.aret d_java_util_ArrayList_get_14 rfl (by first | exact Or.inl ⟨_, rfl⟩ | exact Or.inr ⟨_, rfl⟩) (Nat.zero_le _) (Nat.zero_le _) ex_rf
theorem sp_jdk_internal_util_ArraysSupport_newLength {a b c : Int} (h : 0 ≤ a ∧ a ≤ 1000000 ∧ 1 ≤ b ∧ b ≤ c ∧ c ≤ 1000000) : Sp m_jdk_internal_util_ArraysSupport_newLength false (rmv 1 60) (ex K P J I (.inl (some (vI (a + c))))) K P J I [vI a, vI b, vI c] := by
  refine Sp.ofV (by decide) (Or.inr rfl) rfl ?_
  have e : (if b < c then c else b) = c := by split <;> omega
  refine VW.iload_n (pc' := 1) d_jdk_internal_util_ArraysSupport_newLength_0 rfl rfl ?_
  refine VW.iload_n (pc' := 2) d_jdk_internal_util_ArraysSupport_newLength_1 rfl rfl ?_
  refine VW.iload_n (pc' := 3) d_jdk_internal_util_ArraysSupport_newLength_2 rfl rfl ?_
  refine VW.mm (pc' := 6) true rfl d_jdk_internal_util_ArraysSupport_newLength_3 rfl lk_jdk_internal_util_ArraysSupport_194 rfl rfl (by decide) (by decide) ?_
  rw [if_pos rfl, e]
  refine VW.iadd (pc' := 7) d_jdk_internal_util_ArraysSupport_newLength_6 rfl (by omega) ?_
  refine VW.istore_n (pc' := 8) d_jdk_internal_util_ArraysSupport_newLength_7 rfl rfl ?_
  refine VW.iconst (pc' := 9) d_jdk_internal_util_ArraysSupport_newLength_8 rfl (by decide) ?_
  refine VW.iload_n (pc' := 10) d_jdk_internal_util_ArraysSupport_newLength_9 rfl rfl ?_
  refine VW.icmp_ge (tgt := 21) (pc' := 13) d_jdk_internal_util_ArraysSupport_newLength_10 rfl rfl (fun c10 => ?_) (fun c10 => ?_)
  · exfalso; omega
  · refine VW.iload_n (pc' := 14) d_jdk_internal_util_ArraysSupport_newLength_13 rfl rfl ?_
    refine VW.ldc (pc' := 16) (z := 2147483639) d_jdk_internal_util_ArraysSupport_newLength_14 rfl lk_jdk_internal_util_ArraysSupport_200 (by decide) (by decide) ?_
    refine VW.icmp_gt (tgt := 21) (pc' := 19) d_jdk_internal_util_ArraysSupport_newLength_16 rfl rfl (fun c16 => ?_) (fun c16 => ?_)
    · exfalso; omega
    · refine VW.iload_n (pc' := 20) d_jdk_internal_util_ArraysSupport_newLength_19 rfl rfl ?_
      exact VW.iret d_jdk_internal_util_ArraysSupport_newLength_20 rfl rfl (Nat.zero_le _) (Nat.zero_le _) ex_rf
theorem sp_grow0 {o q : Nat} (hA : AlW K P o 999 0) (hq : K q = none) : Sp m_java_util_ArrayList_grow_ILjavalangObject false ({ frames := 1, cells := 1, slots := 10, locals := 60 } : Room) (ex (upK K q (104, 10)) (up2 P o 1 (some q)) J I (.inl (some (vR (some q))))) K P J I [vR (some o), vI 1] := by
  refine Sp.ofV (by decide) (Or.inr rfl) rfl ?_
  have ho' : upK K q (104, 10) o = some (12, 0) := (upK_o _ _ (fun z => by have := hA.1; rw [z, hq] at this; cases this)).trans hA.1
  refine VW.aload_n (pc' := 1) d_java_util_ArrayList_grow_ILjavalangObject_0 rfl rfl ?_
  refine VW.gP (ci := 12) (T := T12) (N := 3) (k := 1) (k' := 1) (pc' := 4) d_java_util_ArrayList_grow_ILjavalangObject_1 rfl lk_java_util_ArrayList_9 in12 rfl rfl rfl rfl (by first | exact hA.1 | exact hA.2.2 | assumption) (by first | exact hA.2.1 | rfl) ?_
  refine VW.alen (pc' := 5) d_java_util_ArrayList_grow_ILjavalangObject_4 rfl (by first | exact hA.1 | exact hA.2.2 | assumption) (by simp) (by omega) ?_
  refine VW.istore_n (pc' := 6) d_java_util_ArrayList_grow_ILjavalangObject_5 rfl rfl ?_
  refine VW.iload_n (pc' := 7) d_java_util_ArrayList_grow_ILjavalangObject_6 rfl rfl ?_
  refine VW.if_gt (tgt := 20) (pc' := 10) d_java_util_ArrayList_grow_ILjavalangObject_7 rfl rfl (fun c7 => ?_) (fun c7 => ?_)
  · exfalso; omega
  · refine VW.aload_n (pc' := 11) d_java_util_ArrayList_grow_ILjavalangObject_10 rfl rfl ?_
    refine VW.gP (ci := 12) (T := T12) (N := 3) (k := 1) (k' := 1) (pc' := 14) d_java_util_ArrayList_grow_ILjavalangObject_11 rfl lk_java_util_ArrayList_9 in12 rfl rfl rfl rfl (by first | exact hA.1 | exact hA.2.2 | assumption) (by first | exact hA.2.1 | rfl) ?_
    refine VW.gets9 (pc' := 17) d_java_util_ArrayList_grow_ILjavalangObject_14 rfl lk_java_util_ArrayList_39 ?_
    refine VW.acmp_eq (tgt := 45) (pc' := 20) d_java_util_ArrayList_grow_ILjavalangObject_17 rfl rfl (fun c17 => ?_) (fun c17 => ?_)
    · refine VW.aload_n (pc' := 46) d_java_util_ArrayList_grow_ILjavalangObject_45 rfl rfl ?_
      refine VW.bipush (pc' := 48) d_java_util_ArrayList_grow_ILjavalangObject_46 rfl (by decide) ?_
      refine VW.iload_n (pc' := 49) d_java_util_ArrayList_grow_ILjavalangObject_48 rfl rfl ?_
      refine VW.mm (pc' := 52) true rfl d_java_util_ArrayList_grow_ILjavalangObject_49 rfl lk_java_util_ArrayList_79 rfl rfl (by decide) (by decide) ?_
      rw [if_pos rfl, show (if (10 : Int) < 1 then (1 : Int) else 10) = 10 from rfl]
      refine VW.newO q (N := 10) (pc' := 55) d_java_util_ArrayList_grow_ILjavalangObject_52 rfl lk_java_util_ArrayList_7 rfl (by decide) hq (by decide) (by decide) ?_
      refine VW.dup_x1 (pc' := 56) d_java_util_ArrayList_grow_ILjavalangObject_55 rfl rfl rfl ?_
      refine VW.pP (ci := 12) (T := T12) (N := 3) (k := 1) (k' := 1) (ty := ty12) (pc' := 59) d_java_util_ArrayList_grow_ILjavalangObject_56 rfl lk_java_util_ArrayList_9 in12 tk12 nm12 rfl rfl rfl rfl rfl (by first | exact Or.inl ⟨_, rfl⟩ | exact Or.inr ⟨_, rfl⟩) (by first | exact hA.1 | exact hA.2.2 | assumption) ?_
      exact VW.aret d_java_util_ArrayList_grow_ILjavalangObject_59 rfl (by first | exact Or.inl ⟨_, rfl⟩ | exact Or.inr ⟨_, rfl⟩) (by decide) (by decide) ex_rf
    · exfalso; omega
theorem sp_grow1 {o d n q N ci NN : Nat} {C : String} {T : u_T} (hA : AlW K P o d n) (hq : K q = none) (h2 : 2 ≤ n ∧ n ≤ 500000) (hN : N = n + n / 2) (hc : classes[ci]? = some (C, T, NN)) (hca : (C, "java/lang/Object") ∈ NC) (hel : ∀ i q, 0 ≤ i → i < (n : Int) → P d i = some q → ∃ z, K q = some (ci, z)) : Sp m_java_util_ArrayList_grow_ILjavalangObject false ({ frames := 3, cells := 1, slots := N, locals := 160 } : Room) (ex (upK K q (104, N)) (up2 (cpyP P d 0 q 0 n) o 1 (some q)) J I (.inl (some (vR (some q))))) K P J I [vR (some o), vI ((n : Int) + 1)] := by
  refine Sp.ofV (by decide) (Or.inr rfl) rfl ?_
  have ho' : upK K q (104, N) o = some (12, 0) := (upK_o _ _ (fun z => by have := hA.1; rw [z, hq] at this; cases this)).trans hA.1
  have i1 := ishr32 (a := (n : Int)) (b := 1) ⟨by omega, by omega⟩ (by decide) (by decide)
  rw [show (n : Int) / 2 ^ (1 : Int).toNat = ((n / 2 : Nat) : Int) by rw [show (1 : Int).toNat = 1 from rfl, Int.pow_succ, Int.pow_zero]; omega] at i1
  refine VW.aload_n (pc' := 1) d_java_util_ArrayList_grow_ILjavalangObject_0 rfl rfl ?_
  refine VW.gP (ci := 12) (T := T12) (N := 3) (k := 1) (k' := 1) (pc' := 4) d_java_util_ArrayList_grow_ILjavalangObject_1 rfl lk_java_util_ArrayList_9 in12 rfl rfl rfl rfl (by first | exact hA.1 | exact hA.2.2 | assumption) (by first | exact hA.2.1 | rfl) ?_
  refine VW.alen (pc' := 5) d_java_util_ArrayList_grow_ILjavalangObject_4 rfl (by first | exact hA.1 | exact hA.2.2 | assumption) (by simp) (by omega) ?_
  refine VW.istore_n (pc' := 6) d_java_util_ArrayList_grow_ILjavalangObject_5 rfl rfl ?_
  refine VW.iload_n (pc' := 7) d_java_util_ArrayList_grow_ILjavalangObject_6 rfl rfl ?_
  refine VW.if_gt (tgt := 20) (pc' := 10) d_java_util_ArrayList_grow_ILjavalangObject_7 rfl rfl (fun c7 => ?_) (fun c7 => ?_)
  · refine VW.iload_n (pc' := 21) d_java_util_ArrayList_grow_ILjavalangObject_20 rfl rfl ?_
    refine VW.iload_n (pc' := 22) d_java_util_ArrayList_grow_ILjavalangObject_21 rfl rfl ?_
    refine VW.iload_n (pc' := 23) d_java_util_ArrayList_grow_ILjavalangObject_22 rfl rfl ?_
    refine VW.isub (pc' := 24) d_java_util_ArrayList_grow_ILjavalangObject_23 rfl (by omega) ?_
    refine VW.iload_n (pc' := 25) d_java_util_ArrayList_grow_ILjavalangObject_24 rfl rfl ?_
    refine VW.iconst (pc' := 26) d_java_util_ArrayList_grow_ILjavalangObject_25 rfl (by decide) ?_
    refine VW.ishr (pc' := 27) (z := ((n / 2 : Nat) : Int)) d_java_util_ArrayList_grow_ILjavalangObject_26 rfl (⟨by omega, by omega⟩) (i1) ?_
    refine VW.cS (pc' := 30) d_java_util_ArrayList_grow_ILjavalangObject_27 rfl ms_jdk_internal_util_ArraysSupport_newLength lk_java_util_ArrayList_73 rfl rfl rfl (Nat.zero_le _) (Nat.zero_le _) (sp_jdk_internal_util_ArraysSupport_newLength (by omega)) rfl rfl ?_
    refine VW.istore_n (pc' := 31) d_java_util_ArrayList_grow_ILjavalangObject_30 rfl rfl ?_
    refine VW.aload_n (pc' := 32) d_java_util_ArrayList_grow_ILjavalangObject_31 rfl rfl ?_
    refine VW.aload_n (pc' := 33) d_java_util_ArrayList_grow_ILjavalangObject_32 rfl rfl ?_
    refine VW.gP (ci := 12) (T := T12) (N := 3) (k := 1) (k' := 1) (pc' := 36) d_java_util_ArrayList_grow_ILjavalangObject_33 rfl lk_java_util_ArrayList_9 in12 rfl rfl rfl rfl (by first | exact hA.1 | exact hA.2.2 | assumption) (by first | exact hA.2.1 | rfl) ?_
    refine VW.iload_n (pc' := 37) d_java_util_ArrayList_grow_ILjavalangObject_36 rfl rfl ?_
    refine VW.cS (pc' := 40) d_java_util_ArrayList_grow_ILjavalangObject_37 rfl ms_java_util_Arrays_copyOf_LjavalangObjectILjavalangObject lk_java_util_ArrayList_66 rfl rfl rfl (by exact Nat.le_of_eq (Nat.zero_add _)) (by exact Nat.le_of_eq (Nat.zero_add _)) (sp_copyO (N := N) hA.2.2 hq (by omega) (by omega) (by omega) (by omega) hc hca hel) rfl rfl ?_
    refine VW.dup_x1 (pc' := 41) d_java_util_ArrayList_grow_ILjavalangObject_40 rfl rfl rfl ?_
    refine VW.pP (ci := 12) (T := T12) (N := 3) (k := 1) (k' := 1) (ty := ty12) (pc' := 44) d_java_util_ArrayList_grow_ILjavalangObject_41 rfl lk_java_util_ArrayList_9 in12 tk12 nm12 rfl rfl rfl rfl rfl (by first | exact Or.inl ⟨_, rfl⟩ | exact Or.inr ⟨_, rfl⟩) (by first | exact hA.1 | exact hA.2.2 | assumption) ?_
    exact VW.aret d_java_util_ArrayList_grow_ILjavalangObject_44 rfl (by first | exact Or.inl ⟨_, rfl⟩ | exact Or.inr ⟨_, rfl⟩) (by exact Nat.le_of_eq (Nat.zero_add _)) (by exact Nat.le_of_eq (Nat.zero_add _)) ex_rf
  · exfalso; omega
end
