section
variable {K : KT} {P : PT} {J I : IT}
theorem sp_java_util_ArrayList_add_LjavalangObjectLjavalangObjectIV {o d n : Nat} {e ci ze NN : Nat} {C : String} {T : u_T} {z : Int} (hA : AlW K P o d n) (he : K e = some (ci, ze)) (hc : classes[ci]? = some (C, T, NN)) (hca : (C, "java/lang/Object") ∈ NC) (hz : 0 ≤ z ∧ z < n ∧ n ≤ 500000) : Sp m_java_util_ArrayList_add_LjavalangObjectLjavalangObjectIV false (rmv 0 0) (ex K (up2 P d z (some e)) J (up2 I o 2 (z + 1)) (.inl none)) K P J I [vR (some o), vR (some e), vR (some d), vI z] := by
  refine Sp.ofV (by decide) (Or.inr rfl) rfl ?_
  refine VW.iload_n (pc' := 1) d_java_util_ArrayList_add_LjavalangObjectLjavalangObjectIV_0 rfl rfl ?_
  refine VW.aload_n (pc' := 2) d_java_util_ArrayList_add_LjavalangObjectLjavalangObjectIV_1 rfl rfl ?_
  refine VW.alen (pc' := 3) d_java_util_ArrayList_add_LjavalangObjectLjavalangObjectIV_2 rfl (by first | exact hA.2.2 | exact hA.1) (by simp) (by omega) ?_
  refine VW.icmp_ne (tgt := 11) (pc' := 6) d_java_util_ArrayList_add_LjavalangObjectLjavalangObjectIV_3 rfl rfl (fun c3 => ?_) (fun c3 => ?_)
  case refine_2 => exact absurd c3 (by omega)
  refine VW.aload_n (pc' := 12) d_java_util_ArrayList_add_LjavalangObjectLjavalangObjectIV_11 rfl rfl ?_
  refine VW.iload_n (pc' := 13) d_java_util_ArrayList_add_LjavalangObjectLjavalangObjectIV_12 rfl rfl ?_
  refine VW.aload_n (pc' := 14) d_java_util_ArrayList_add_LjavalangObjectLjavalangObjectIV_13 rfl rfl ?_
  refine VW.astO (ci := ci) (NN := NN) (C := C) (T := T) (pc' := 15) d_java_util_ArrayList_add_LjavalangObjectLjavalangObjectIV_14 rfl (hA.2.2) hc (he) hca (by omega) (by omega) ?_
  refine VW.aload_n (pc' := 16) d_java_util_ArrayList_add_LjavalangObjectLjavalangObjectIV_15 rfl rfl ?_
  refine VW.iload_n (pc' := 17) d_java_util_ArrayList_add_LjavalangObjectLjavalangObjectIV_16 rfl rfl ?_
  refine VW.iconst (pc' := 18) d_java_util_ArrayList_add_LjavalangObjectLjavalangObjectIV_17 rfl (by decide) ?_
  refine VW.iadd (pc' := 19) d_java_util_ArrayList_add_LjavalangObjectLjavalangObjectIV_18 rfl (by omega) ?_
  refine VW.pI (ci := 12) (T := T12) (N := 3) (k := 2) (k' := 2) (ty := ty12) (pc' := 22) d_java_util_ArrayList_add_LjavalangObjectLjavalangObjectIV_19 rfl lk_java_util_ArrayList_48 in12 tk12 nm12 rfl rfl rfl rfl rfl rfl (by first | exact hA.2.2 | exact hA.1) ?_
  exact VW.vret d_java_util_ArrayList_add_LjavalangObjectLjavalangObjectIV_22 rfl (Nat.zero_le _) (Nat.zero_le _) ex_rf
theorem sp_add_in {o d n : Nat} {e ci ze NN : Nat} {C : String} {T : u_T} (hA : AlW K P o d n) (he : K e = some (ci, ze)) (hc : classes[ci]? = some (C, T, NN)) (hca : (C, "java/lang/Object") ∈ NC) (hz : 0 ≤ I o 2 ∧ I o 2 < n ∧ n ≤ 500000) (hm : 0 ≤ I o 0 ∧ I o 0 < 100000) : Sp m_java_util_ArrayList_add false (rmv 1 40) (ex K (up2 P d (I o 2) (some e)) J (up2 (up2 I o 0 (I o 0 + 1)) o 2 (I o 2 + 1)) (.inl (some (vI 1)))) K P J I [vR (some o), vR (some e)] := by
  refine Sp.ofV (by decide) (Or.inr rfl) rfl ?_
  have hm' : 0 ≤ I o ((0 : Nat) : Int) ∧ I o ((0 : Nat) : Int) < 100000 := hm
  have e2 : up2 I o 0 (I o 0 + 1) o 2 = I o 2 := up2_k _ _ _ _ (by decide)
  refine VW.aload_n (pc' := 1) d_java_util_ArrayList_add_0 rfl rfl ?_
  refine VW.dup (pc' := 2) d_java_util_ArrayList_add_1 rfl rfl ?_
  refine VW.getIh (ci := 12) (T := T12) (N := 3) (k := 0) (ref := "java/util/ArrayList") (pc' := 5) d_java_util_ArrayList_add_2 rfl lk_java_util_ArrayList_63 kw_sameField in12 rfl rfl rfl (by first | exact hA.1) (by first | exact hA.2.1 | rfl) ?_
  refine VW.iconst (pc' := 6) d_java_util_ArrayList_add_5 rfl (by decide) ?_
  refine VW.iadd (pc' := 7) d_java_util_ArrayList_add_6 rfl (by omega) ?_
  refine VW.putIh (ci := 12) (T := T12) (N := 3) (k := 0) (k' := 0) (ty := ty12) (ref := "java/util/ArrayList") (pc' := 10) d_java_util_ArrayList_add_7 rfl lk_java_util_ArrayList_63 kw_sameField in12 tk12 nm12 rfl rfl rfl rfl rfl rfl (by first | exact hA.1) ?_
  refine VW.aload_n (pc' := 11) d_java_util_ArrayList_add_10 rfl rfl ?_
  refine VW.aload_n (pc' := 12) d_java_util_ArrayList_add_11 rfl rfl ?_
  refine VW.aload_n (pc' := 13) d_java_util_ArrayList_add_12 rfl rfl ?_
  refine VW.gP (ci := 12) (T := T12) (N := 3) (k := 1) (k' := 1) (pc' := 16) d_java_util_ArrayList_add_13 rfl lk_java_util_ArrayList_9 in12 rfl rfl rfl rfl (by first | exact hA.1) (by first | exact hA.2.1 | rfl) ?_
  refine VW.aload_n (pc' := 17) d_java_util_ArrayList_add_16 rfl rfl ?_
  refine VW.gI (ci := 12) (T := T12) (N := 3) (k := 2) (k' := 2) (pc' := 20) d_java_util_ArrayList_add_17 rfl lk_java_util_ArrayList_48 in12 rfl rfl rfl rfl (by first | exact hA.1) (e2) ?_
  refine VW.cV (ci := 12) (T := T12) (N := 3) (pc' := 23) d_java_util_ArrayList_add_20 rfl mv_java_util_ArrayList_add_LjavalangObjectLjavalangObjectIV lk_java_util_ArrayList_131 rfl (by first | exact hA.1) rfl rfl rfl (Nat.le_refl _) (Nat.le_refl _) (sp_java_util_ArrayList_add_LjavalangObjectLjavalangObjectIV hA he hc hca hz) rfl rfl ?_
  refine VW.iconst (pc' := 24) d_java_util_ArrayList_add_23 rfl (by decide) ?_
  exact VW.iret d_java_util_ArrayList_add_24 rfl rfl (Nat.zero_le _) (Nat.zero_le _) ex_rf
theorem sp_growN0 {o q : Nat}  (hq : K q = none) (hA : AlW K P o 999 0) (hs : I o 2 = 0) : Sp m_java_util_ArrayList_grow false ({ frames := 2, cells := 1, slots := 10, locals := 100 } : Room) (ex (upK K q (104, 10)) (up2 P o 1 (some q)) J I (.inl (some (vR (some q))))) K P J I [vR (some o)] := by
  refine Sp.ofV (by decide) (Or.inr rfl) rfl ?_
  refine VW.aload_n (pc' := 1) d_java_util_ArrayList_grow_0 rfl rfl ?_
  refine VW.aload_n (pc' := 2) d_java_util_ArrayList_grow_1 rfl rfl ?_
  refine VW.gI (ci := 12) (T := T12) (N := 3) (k := 2) (k' := 2) (pc' := 5) d_java_util_ArrayList_grow_2 rfl lk_java_util_ArrayList_48 in12 rfl rfl rfl rfl (hA.1) (hs) ?_
  refine VW.iconst (pc' := 6) d_java_util_ArrayList_grow_5 rfl (by decide) ?_
  refine VW.iadd (pc' := 7) d_java_util_ArrayList_grow_6 rfl (by omega) ?_
  refine VW.cV (ci := 12) (T := T12) (N := 3) (pc' := 10) d_java_util_ArrayList_grow_7 rfl mv_java_util_ArrayList_grow_ILjavalangObject lk_java_util_ArrayList_69 rfl (hA.1) rfl rfl rfl (by exact Nat.le_of_eq (Nat.zero_add _)) (by exact Nat.le_of_eq (Nat.zero_add _)) (sp_grow0 hA hq) rfl rfl ?_
  exact VW.aret d_java_util_ArrayList_grow_10 rfl (by first | exact Or.inl ⟨_, rfl⟩ | exact Or.inr ⟨_, rfl⟩) (by exact Nat.le_of_eq (Nat.zero_add _)) (by exact Nat.le_of_eq (Nat.zero_add _)) ex_rf
theorem sp_addI0 {o q e ze ci NN : Nat} {C : String} {T : u_T} (hq : K q = none) (hA : AlW K P o 999 0) (he : K e = some (ci, ze)) (hc : classes[ci]? = some (C, T, NN)) (hca : (C, "java/lang/Object") ∈ NC) (hs : I o 2 = 0) : Sp m_java_util_ArrayList_add_LjavalangObjectLjavalangObjectIV false ({ frames := 3, cells := 1, slots := 10, locals := 140 } : Room) (ex (upK K q (104, 10)) (up2 (up2 P o 1 (some q)) q (0) (some e)) J (up2 I o 2 (0 + 1)) (.inl none)) K P J I [vR (some o), vR (some e), vR (some 999), vI (0)] := by
  refine Sp.ofV (by decide) (Or.inr rfl) rfl ?_
  have ne : e ≠ q := fun y => by rw [y, hq] at he; cases he
  have no : o ≠ q := fun y => by have := hA.1; rw [y, hq] at this; cases this
  have ho' : (upK K q (104, 10)) o = some (12, 0) := (upK_o _ _ no).trans hA.1
  have hq' : (upK K q (104, 10)) q = some (104, 10) := upK_eq _ _ _
  have he' : (upK K q (104, 10)) e = some (ci, ze) := (upK_o _ _ ne).trans he
  refine VW.iload_n (pc' := 1) d_java_util_ArrayList_add_LjavalangObjectLjavalangObjectIV_0 rfl rfl ?_
  refine VW.aload_n (pc' := 2) d_java_util_ArrayList_add_LjavalangObjectLjavalangObjectIV_1 rfl rfl ?_
  refine VW.alen (pc' := 3) d_java_util_ArrayList_add_LjavalangObjectLjavalangObjectIV_2 rfl (by first | exact hA.2.2 | exact hA.1 | exact ho') (by simp) (by omega) ?_
  refine VW.icmp_ne (tgt := 11) (pc' := 6) d_java_util_ArrayList_add_LjavalangObjectLjavalangObjectIV_3 rfl rfl (fun c3 => ?_) (fun c3 => ?_)
  case refine_1 => exact absurd c3 (by omega)
  refine VW.aload_n (pc' := 7) d_java_util_ArrayList_add_LjavalangObjectLjavalangObjectIV_6 rfl rfl ?_
  refine VW.cV (ci := 12) (T := T12) (N := 3) (pc' := 10) d_java_util_ArrayList_add_LjavalangObjectLjavalangObjectIV_7 rfl mv_java_util_ArrayList_grow lk_java_util_ArrayList_129 rfl (by first | exact hA.2.2 | exact hA.1 | exact ho') rfl rfl rfl (by exact Nat.le_of_eq (Nat.zero_add _)) (by exact Nat.le_of_eq (Nat.zero_add _)) (sp_growN0 hq hA hs) rfl rfl ?_
  refine VW.astore_n (pc' := 11) d_java_util_ArrayList_add_LjavalangObjectLjavalangObjectIV_10 rfl rfl ?_
  refine VW.aload_n (pc' := 12) d_java_util_ArrayList_add_LjavalangObjectLjavalangObjectIV_11 rfl rfl ?_
  refine VW.iload_n (pc' := 13) d_java_util_ArrayList_add_LjavalangObjectLjavalangObjectIV_12 rfl rfl ?_
  refine VW.aload_n (pc' := 14) d_java_util_ArrayList_add_LjavalangObjectLjavalangObjectIV_13 rfl rfl ?_
  refine VW.astO (ci := ci) (NN := NN) (C := C) (T := T) (pc' := 15) d_java_util_ArrayList_add_LjavalangObjectLjavalangObjectIV_14 rfl (hq') hc (he') hca (by omega) (by omega) ?_
  refine VW.aload_n (pc' := 16) d_java_util_ArrayList_add_LjavalangObjectLjavalangObjectIV_15 rfl rfl ?_
  refine VW.iload_n (pc' := 17) d_java_util_ArrayList_add_LjavalangObjectLjavalangObjectIV_16 rfl rfl ?_
  refine VW.iconst (pc' := 18) d_java_util_ArrayList_add_LjavalangObjectLjavalangObjectIV_17 rfl (by decide) ?_
  refine VW.iadd (pc' := 19) d_java_util_ArrayList_add_LjavalangObjectLjavalangObjectIV_18 rfl (by omega) ?_
  refine VW.pI (ci := 12) (T := T12) (N := 3) (k := 2) (k' := 2) (ty := ty12) (pc' := 22) d_java_util_ArrayList_add_LjavalangObjectLjavalangObjectIV_19 rfl lk_java_util_ArrayList_48 in12 tk12 nm12 rfl rfl rfl rfl rfl rfl (by first | exact hA.2.2 | exact hA.1 | exact ho') ?_
  exact VW.vret d_java_util_ArrayList_add_LjavalangObjectLjavalangObjectIV_22 rfl (by exact Nat.le_of_eq (Nat.zero_add _)) (by exact Nat.le_of_eq (Nat.zero_add _)) ex_rf
theorem sp_add0 {o q e ze ci NN : Nat} {C : String} {T : u_T} (hq : K q = none) (hA : AlW K P o 999 0) (he : K e = some (ci, ze)) (hc : classes[ci]? = some (C, T, NN)) (hca : (C, "java/lang/Object") ∈ NC) (hs : I o 2 = 0) (hm : 0 ≤ I o 0 ∧ I o 0 < 100000) : Sp m_java_util_ArrayList_add false ({ frames := 4, cells := 1, slots := 10, locals := 180 } : Room) (ex (upK K q (104, 10)) (up2 (up2 P o 1 (some q)) q (0) (some e)) J (up2 (up2 I o 0 (I o 0 + 1)) o 2 (0 + 1)) (.inl (some (vI 1)))) K P J I [vR (some o), vR (some e)] := by
  refine Sp.ofV (by decide) (Or.inr rfl) rfl ?_
  have hm' : 0 ≤ I o ((0 : Nat) : Int) ∧ I o ((0 : Nat) : Int) < 100000 := hm
  have e2 : up2 I o 0 (I o 0 + 1) o 2 = 0 := (up2_k _ _ _ _ (by decide)).trans hs
  refine VW.aload_n (pc' := 1) d_java_util_ArrayList_add_0 rfl rfl ?_
  refine VW.dup (pc' := 2) d_java_util_ArrayList_add_1 rfl rfl ?_
  refine VW.getIh (ci := 12) (T := T12) (N := 3) (k := 0) (ref := "java/util/ArrayList") (pc' := 5) d_java_util_ArrayList_add_2 rfl lk_java_util_ArrayList_63 kw_sameField in12 rfl rfl rfl (by first | exact hA.1) (by first | exact hA.2.1 | rfl) ?_
  refine VW.iconst (pc' := 6) d_java_util_ArrayList_add_5 rfl (by decide) ?_
  refine VW.iadd (pc' := 7) d_java_util_ArrayList_add_6 rfl (by omega) ?_
  refine VW.putIh (ci := 12) (T := T12) (N := 3) (k := 0) (k' := 0) (ty := ty12) (ref := "java/util/ArrayList") (pc' := 10) d_java_util_ArrayList_add_7 rfl lk_java_util_ArrayList_63 kw_sameField in12 tk12 nm12 rfl rfl rfl rfl rfl rfl (by first | exact hA.1) ?_
  refine VW.aload_n (pc' := 11) d_java_util_ArrayList_add_10 rfl rfl ?_
  refine VW.aload_n (pc' := 12) d_java_util_ArrayList_add_11 rfl rfl ?_
  refine VW.aload_n (pc' := 13) d_java_util_ArrayList_add_12 rfl rfl ?_
  refine VW.gP (ci := 12) (T := T12) (N := 3) (k := 1) (k' := 1) (pc' := 16) d_java_util_ArrayList_add_13 rfl lk_java_util_ArrayList_9 in12 rfl rfl rfl rfl (by first | exact hA.1) (by first | exact hA.2.1 | rfl) ?_
  refine VW.aload_n (pc' := 17) d_java_util_ArrayList_add_16 rfl rfl ?_
  refine VW.gI (ci := 12) (T := T12) (N := 3) (k := 2) (k' := 2) (pc' := 20) d_java_util_ArrayList_add_17 rfl lk_java_util_ArrayList_48 in12 rfl rfl rfl rfl (by first | exact hA.1) (e2) ?_
  refine VW.cV (ci := 12) (T := T12) (N := 3) (pc' := 23) d_java_util_ArrayList_add_20 rfl mv_java_util_ArrayList_add_LjavalangObjectLjavalangObjectIV lk_java_util_ArrayList_131 rfl (by first | exact hA.1) rfl rfl rfl (by exact Nat.le_of_eq (Nat.zero_add _)) (by exact Nat.le_of_eq (Nat.zero_add _)) (sp_addI0 hq hA he hc hca e2) rfl rfl ?_
  refine VW.iconst (pc' := 24) d_java_util_ArrayList_add_23 rfl (by decide) ?_
  exact VW.iret d_java_util_ArrayList_add_24 rfl rfl (by exact Nat.le_of_eq (Nat.zero_add _)) (by exact Nat.le_of_eq (Nat.zero_add _)) ex_rf
theorem sp_growN1 {o q d n N : Nat} {ci NN : Nat} {C : String} {T : u_T} (hq : K q = none) (hA : AlW K P o d n) (h2 : 2 ≤ n ∧ n ≤ 500000) (hN : N = n + n / 2) (hc : classes[ci]? = some (C, T, NN)) (hca : (C, "java/lang/Object") ∈ NC) (hel : ∀ i q, 0 ≤ i → i < (n : Int) → P d i = some q → ∃ z, K q = some (ci, z)) (hs : I o 2 = (n : Int)) : Sp m_java_util_ArrayList_grow false ({ frames := 4, cells := 1, slots := N, locals := 200 } : Room) (ex (upK K q (104, N)) (up2 (cpyP P d 0 q 0 n) o 1 (some q)) J I (.inl (some (vR (some q))))) K P J I [vR (some o)] := by
  refine Sp.ofV (by decide) (Or.inr rfl) rfl ?_
  refine VW.aload_n (pc' := 1) d_java_util_ArrayList_grow_0 rfl rfl ?_
  refine VW.aload_n (pc' := 2) d_java_util_ArrayList_grow_1 rfl rfl ?_
  refine VW.gI (ci := 12) (T := T12) (N := 3) (k := 2) (k' := 2) (pc' := 5) d_java_util_ArrayList_grow_2 rfl lk_java_util_ArrayList_48 in12 rfl rfl rfl rfl (hA.1) (hs) ?_
  refine VW.iconst (pc' := 6) d_java_util_ArrayList_grow_5 rfl (by decide) ?_
  refine VW.iadd (pc' := 7) d_java_util_ArrayList_grow_6 rfl (by omega) ?_
  refine VW.cV (ci := 12) (T := T12) (N := 3) (pc' := 10) d_java_util_ArrayList_grow_7 rfl mv_java_util_ArrayList_grow_ILjavalangObject lk_java_util_ArrayList_69 rfl (hA.1) rfl rfl rfl (by exact Nat.le_of_eq (Nat.zero_add _)) (by exact Nat.le_of_eq (Nat.zero_add _)) (sp_grow1 hA hq h2 hN hc hca hel) rfl rfl ?_
  exact VW.aret d_java_util_ArrayList_grow_10 rfl (by first | exact Or.inl ⟨_, rfl⟩ | exact Or.inr ⟨_, rfl⟩) (by exact Nat.le_of_eq (Nat.zero_add _)) (by exact Nat.le_of_eq (Nat.zero_add _)) ex_rf
theorem sp_addI1 {o q e ze ci NN d n N : Nat} {C : String} {T : u_T} (hq : K q = none) (hA : AlW K P o d n) (h2 : 2 ≤ n ∧ n ≤ 500000) (hN : N = n + n / 2) (hc : classes[ci]? = some (C, T, NN)) (hca : (C, "java/lang/Object") ∈ NC) (hel : ∀ i q, 0 ≤ i → i < (n : Int) → P d i = some q → ∃ z, K q = some (ci, z)) (he : K e = some (ci, ze)) (hs : I o 2 = (n : Int)) : Sp m_java_util_ArrayList_add_LjavalangObjectLjavalangObjectIV false ({ frames := 5, cells := 1, slots := N, locals := 240 } : Room) (ex (upK K q (104, N)) (up2 (up2 (cpyP P d 0 q 0 n) o 1 (some q)) q ((n : Int)) (some e)) J (up2 I o 2 ((n : Int) + 1)) (.inl none)) K P J I [vR (some o), vR (some e), vR (some d), vI ((n : Int))] := by
  refine Sp.ofV (by decide) (Or.inr rfl) rfl ?_
  have ne : e ≠ q := fun y => by rw [y, hq] at he; cases he
  have no : o ≠ q := fun y => by have := hA.1; rw [y, hq] at this; cases this
  have ho' : (upK K q (104, N)) o = some (12, 0) := (upK_o _ _ no).trans hA.1
  have hq' : (upK K q (104, N)) q = some (104, N) := upK_eq _ _ _
  have he' : (upK K q (104, N)) e = some (ci, ze) := (upK_o _ _ ne).trans he
  refine VW.iload_n (pc' := 1) d_java_util_ArrayList_add_LjavalangObjectLjavalangObjectIV_0 rfl rfl ?_
  refine VW.aload_n (pc' := 2) d_java_util_ArrayList_add_LjavalangObjectLjavalangObjectIV_1 rfl rfl ?_
  refine VW.alen (pc' := 3) d_java_util_ArrayList_add_LjavalangObjectLjavalangObjectIV_2 rfl (by first | exact hA.2.2 | exact hA.1 | exact ho') (by simp) (by omega) ?_
  refine VW.icmp_ne (tgt := 11) (pc' := 6) d_java_util_ArrayList_add_LjavalangObjectLjavalangObjectIV_3 rfl rfl (fun c3 => ?_) (fun c3 => ?_)
  case refine_1 => exact absurd c3 (by omega)
  refine VW.aload_n (pc' := 7) d_java_util_ArrayList_add_LjavalangObjectLjavalangObjectIV_6 rfl rfl ?_
  refine VW.cV (ci := 12) (T := T12) (N := 3) (pc' := 10) d_java_util_ArrayList_add_LjavalangObjectLjavalangObjectIV_7 rfl mv_java_util_ArrayList_grow lk_java_util_ArrayList_129 rfl (by first | exact hA.2.2 | exact hA.1 | exact ho') rfl rfl rfl (by exact Nat.le_of_eq (Nat.zero_add _)) (by exact Nat.le_of_eq (Nat.zero_add _)) (sp_growN1 hq hA h2 hN hc hca hel hs) rfl rfl ?_
  refine VW.astore_n (pc' := 11) d_java_util_ArrayList_add_LjavalangObjectLjavalangObjectIV_10 rfl rfl ?_
  refine VW.aload_n (pc' := 12) d_java_util_ArrayList_add_LjavalangObjectLjavalangObjectIV_11 rfl rfl ?_
  refine VW.iload_n (pc' := 13) d_java_util_ArrayList_add_LjavalangObjectLjavalangObjectIV_12 rfl rfl ?_
  refine VW.aload_n (pc' := 14) d_java_util_ArrayList_add_LjavalangObjectLjavalangObjectIV_13 rfl rfl ?_
  refine VW.astO (ci := ci) (NN := NN) (C := C) (T := T) (pc' := 15) d_java_util_ArrayList_add_LjavalangObjectLjavalangObjectIV_14 rfl (hq') hc (he') hca (by omega) (by omega) ?_
  refine VW.aload_n (pc' := 16) d_java_util_ArrayList_add_LjavalangObjectLjavalangObjectIV_15 rfl rfl ?_
  refine VW.iload_n (pc' := 17) d_java_util_ArrayList_add_LjavalangObjectLjavalangObjectIV_16 rfl rfl ?_
  refine VW.iconst (pc' := 18) d_java_util_ArrayList_add_LjavalangObjectLjavalangObjectIV_17 rfl (by decide) ?_
  refine VW.iadd (pc' := 19) d_java_util_ArrayList_add_LjavalangObjectLjavalangObjectIV_18 rfl (by omega) ?_
  refine VW.pI (ci := 12) (T := T12) (N := 3) (k := 2) (k' := 2) (ty := ty12) (pc' := 22) d_java_util_ArrayList_add_LjavalangObjectLjavalangObjectIV_19 rfl lk_java_util_ArrayList_48 in12 tk12 nm12 rfl rfl rfl rfl rfl rfl (by first | exact hA.2.2 | exact hA.1 | exact ho') ?_
  exact VW.vret d_java_util_ArrayList_add_LjavalangObjectLjavalangObjectIV_22 rfl (by exact Nat.le_of_eq (Nat.zero_add _)) (by exact Nat.le_of_eq (Nat.zero_add _)) ex_rf
theorem sp_add1 {o q e ze ci NN d n N : Nat} {C : String} {T : u_T} (hq : K q = none) (hA : AlW K P o d n) (h2 : 2 ≤ n ∧ n ≤ 500000) (hN : N = n + n / 2) (hc : classes[ci]? = some (C, T, NN)) (hca : (C, "java/lang/Object") ∈ NC) (hel : ∀ i q, 0 ≤ i → i < (n : Int) → P d i = some q → ∃ z, K q = some (ci, z)) (he : K e = some (ci, ze)) (hs : I o 2 = (n : Int)) (hm : 0 ≤ I o 0 ∧ I o 0 < 100000) : Sp m_java_util_ArrayList_add false ({ frames := 6, cells := 1, slots := N, locals := 280 } : Room) (ex (upK K q (104, N)) (up2 (up2 (cpyP P d 0 q 0 n) o 1 (some q)) q ((n : Int)) (some e)) J (up2 (up2 I o 0 (I o 0 + 1)) o 2 ((n : Int) + 1)) (.inl (some (vI 1)))) K P J I [vR (some o), vR (some e)] := by
  refine Sp.ofV (by decide) (Or.inr rfl) rfl ?_
  have hm' : 0 ≤ I o ((0 : Nat) : Int) ∧ I o ((0 : Nat) : Int) < 100000 := hm
  have e2 : up2 I o 0 (I o 0 + 1) o 2 = (n : Int) := (up2_k _ _ _ _ (by decide)).trans hs
  refine VW.aload_n (pc' := 1) d_java_util_ArrayList_add_0 rfl rfl ?_
  refine VW.dup (pc' := 2) d_java_util_ArrayList_add_1 rfl rfl ?_
  refine VW.getIh (ci := 12) (T := T12) (N := 3) (k := 0) (ref := "java/util/ArrayList") (pc' := 5) d_java_util_ArrayList_add_2 rfl lk_java_util_ArrayList_63 kw_sameField in12 rfl rfl rfl (by first | exact hA.1) (by first | exact hA.2.1 | rfl) ?_
  refine VW.iconst (pc' := 6) d_java_util_ArrayList_add_5 rfl (by decide) ?_
  refine VW.iadd (pc' := 7) d_java_util_ArrayList_add_6 rfl (by omega) ?_
  refine VW.putIh (ci := 12) (T := T12) (N := 3) (k := 0) (k' := 0) (ty := ty12) (ref := "java/util/ArrayList") (pc' := 10) d_java_util_ArrayList_add_7 rfl lk_java_util_ArrayList_63 kw_sameField in12 tk12 nm12 rfl rfl rfl rfl rfl rfl (by first | exact hA.1) ?_
  refine VW.aload_n (pc' := 11) d_java_util_ArrayList_add_10 rfl rfl ?_
  refine VW.aload_n (pc' := 12) d_java_util_ArrayList_add_11 rfl rfl ?_
  refine VW.aload_n (pc' := 13) d_java_util_ArrayList_add_12 rfl rfl ?_
  refine VW.gP (ci := 12) (T := T12) (N := 3) (k := 1) (k' := 1) (pc' := 16) d_java_util_ArrayList_add_13 rfl lk_java_util_ArrayList_9 in12 rfl rfl rfl rfl (by first | exact hA.1) (by first | exact hA.2.1 | rfl) ?_
  refine VW.aload_n (pc' := 17) d_java_util_ArrayList_add_16 rfl rfl ?_
  refine VW.gI (ci := 12) (T := T12) (N := 3) (k := 2) (k' := 2) (pc' := 20) d_java_util_ArrayList_add_17 rfl lk_java_util_ArrayList_48 in12 rfl rfl rfl rfl (by first | exact hA.1) (e2) ?_
  refine VW.cV (ci := 12) (T := T12) (N := 3) (pc' := 23) d_java_util_ArrayList_add_20 rfl mv_java_util_ArrayList_add_LjavalangObjectLjavalangObjectIV lk_java_util_ArrayList_131 rfl (by first | exact hA.1) rfl rfl rfl (by exact Nat.le_of_eq (Nat.zero_add _)) (by exact Nat.le_of_eq (Nat.zero_add _)) (sp_addI1 hq hA h2 hN hc hca hel he e2) rfl rfl ?_
  refine VW.iconst (pc' := 24) d_java_util_ArrayList_add_23 rfl (by decide) ?_
  exact VW.iret d_java_util_ArrayList_add_24 rfl rfl (by exact Nat.le_of_eq (Nat.zero_add _)) (by exact Nat.le_of_eq (Nat.zero_add _)) ex_rf
end
