section
variable {K : KT} {P : PT} {J I : IT}
theorem sp_F_records (hC : ClW K P) : Sp m_F_records false (rmv 0 0) (ex K P J I (.inl (some (vI (I 1192 0))))) K P J I [vR (some 1000)] := by
  refine Sp.ofV (by decide) (Or.inr rfl) rfl ?_
  refine VW.aload_n (pc' := 1) d_F_records_0 rfl rfl ?_
  refine VW.gP (ci := 10) (T := T10) (N := 11) (k := 1) (k' := 1) (pc' := 4) d_F_records_1 rfl lk_F_21 in10 rfl rfl rfl rfl (by first | exact hC.k 0 rfl | exact hC.k 9 rfl | exact hC.k 23 rfl | exact hC.k 39 rfl | exact hC.k 54 rfl | exact hC.k 55 rfl | exact hC.k 56 rfl) (by first | exact hC.p 0 rfl | exact hC.p 1 rfl | exact hC.p 2 rfl | exact hC.p 3 rfl | exact hC.p 4 rfl | exact hC.p 5 rfl | exact hC.p 6 rfl | exact hC.p 7 rfl | exact hC.p 18 rfl | rfl) ?_
  refine VW.gP (ci := 0) (T := T0) (N := 8) (k := 3) (k' := 3) (pc' := 7) d_F_records_4 rfl lk_F_219 in0 rfl rfl rfl rfl (by first | exact hC.k 0 rfl | exact hC.k 9 rfl | exact hC.k 23 rfl | exact hC.k 39 rfl | exact hC.k 54 rfl | exact hC.k 55 rfl | exact hC.k 56 rfl) (by first | exact hC.p 0 rfl | exact hC.p 1 rfl | exact hC.p 2 rfl | exact hC.p 3 rfl | exact hC.p 4 rfl | exact hC.p 5 rfl | exact hC.p 6 rfl | exact hC.p 7 rfl | exact hC.p 18 rfl | rfl) ?_
  refine VW.gI (ci := 2) (T := T2) (N := 5) (k := 0) (k' := 0) (pc' := 10) d_F_records_7 rfl lk_F_330 in2 rfl rfl rfl rfl (by first | exact hC.k 0 rfl | exact hC.k 9 rfl | exact hC.k 23 rfl | exact hC.k 39 rfl | exact hC.k 54 rfl | exact hC.k 55 rfl | exact hC.k 56 rfl) (by first | exact hC.p 0 rfl | exact hC.p 1 rfl | exact hC.p 2 rfl | exact hC.p 3 rfl | exact hC.p 4 rfl | exact hC.p 5 rfl | exact hC.p 6 rfl | exact hC.p 7 rfl | exact hC.p 18 rfl | rfl) ?_
  exact VW.iret d_F_records_10 rfl rfl (Nat.zero_le _) (Nat.zero_le _) ex_rf
theorem sp_F_flushed (hC : ClW K P) : Sp m_F_flushed false (rmv 0 0) (ex K P J I (.inl (some (vI (I 1192 1))))) K P J I [vR (some 1000)] := by
  refine Sp.ofV (by decide) (Or.inr rfl) rfl ?_
  refine VW.aload_n (pc' := 1) d_F_flushed_0 rfl rfl ?_
  refine VW.gP (ci := 10) (T := T10) (N := 11) (k := 1) (k' := 1) (pc' := 4) d_F_flushed_1 rfl lk_F_21 in10 rfl rfl rfl rfl (by first | exact hC.k 0 rfl | exact hC.k 9 rfl | exact hC.k 23 rfl | exact hC.k 39 rfl | exact hC.k 54 rfl | exact hC.k 55 rfl | exact hC.k 56 rfl) (by first | exact hC.p 0 rfl | exact hC.p 1 rfl | exact hC.p 2 rfl | exact hC.p 3 rfl | exact hC.p 4 rfl | exact hC.p 5 rfl | exact hC.p 6 rfl | exact hC.p 7 rfl | exact hC.p 18 rfl | rfl) ?_
  refine VW.gP (ci := 0) (T := T0) (N := 8) (k := 3) (k' := 3) (pc' := 7) d_F_flushed_4 rfl lk_F_219 in0 rfl rfl rfl rfl (by first | exact hC.k 0 rfl | exact hC.k 9 rfl | exact hC.k 23 rfl | exact hC.k 39 rfl | exact hC.k 54 rfl | exact hC.k 55 rfl | exact hC.k 56 rfl) (by first | exact hC.p 0 rfl | exact hC.p 1 rfl | exact hC.p 2 rfl | exact hC.p 3 rfl | exact hC.p 4 rfl | exact hC.p 5 rfl | exact hC.p 6 rfl | exact hC.p 7 rfl | exact hC.p 18 rfl | rfl) ?_
  refine VW.gI (ci := 2) (T := T2) (N := 5) (k := 1) (k' := 1) (pc' := 10) d_F_flushed_7 rfl lk_F_333 in2 rfl rfl rfl rfl (by first | exact hC.k 0 rfl | exact hC.k 9 rfl | exact hC.k 23 rfl | exact hC.k 39 rfl | exact hC.k 54 rfl | exact hC.k 55 rfl | exact hC.k 56 rfl) (by first | exact hC.p 0 rfl | exact hC.p 1 rfl | exact hC.p 2 rfl | exact hC.p 3 rfl | exact hC.p 4 rfl | exact hC.p 5 rfl | exact hC.p 6 rfl | exact hC.p 7 rfl | exact hC.p 18 rfl | rfl) ?_
  exact VW.iret d_F_flushed_10 rfl rfl (Nat.zero_le _) (Nat.zero_le _) ex_rf
theorem sp_F_planned (hC : ClW K P) : Sp m_F_planned false (rmv 0 0) (ex K P J I (.inl (some (vI (I 1384 13))))) K P J I [vR (some 1000)] := by
  refine Sp.ofV (by decide) (Or.inr rfl) rfl ?_
  refine VW.aload_n (pc' := 1) d_F_planned_0 rfl rfl ?_
  refine VW.gP (ci := 10) (T := T10) (N := 11) (k := 3) (k' := 3) (pc' := 4) d_F_planned_1 rfl lk_F_35 in10 rfl rfl rfl rfl (by first | exact hC.k 0 rfl | exact hC.k 9 rfl | exact hC.k 23 rfl | exact hC.k 39 rfl | exact hC.k 54 rfl | exact hC.k 55 rfl | exact hC.k 56 rfl) (by first | exact hC.p 0 rfl | exact hC.p 1 rfl | exact hC.p 2 rfl | exact hC.p 3 rfl | exact hC.p 4 rfl | exact hC.p 5 rfl | exact hC.p 6 rfl | exact hC.p 7 rfl | exact hC.p 18 rfl | rfl) ?_
  refine VW.gI (ci := 3) (T := T3) (N := 14) (k := 13) (k' := 13) (pc' := 7) d_F_planned_4 rfl lk_F_312 in3 rfl rfl rfl rfl (by first | exact hC.k 0 rfl | exact hC.k 9 rfl | exact hC.k 23 rfl | exact hC.k 39 rfl | exact hC.k 54 rfl | exact hC.k 55 rfl | exact hC.k 56 rfl) (by first | exact hC.p 0 rfl | exact hC.p 1 rfl | exact hC.p 2 rfl | exact hC.p 3 rfl | exact hC.p 4 rfl | exact hC.p 5 rfl | exact hC.p 6 rfl | exact hC.p 7 rfl | exact hC.p 18 rfl | rfl) ?_
  exact VW.iret d_F_planned_7 rfl rfl (Nat.zero_le _) (Nat.zero_le _) ex_rf
theorem sp_F_hasQuery {n : Nat} {a : Int} (hC : ClW K P) (hz : I 1480 2 = n) : Sp m_F_hasQuery false (rmv 1 20) (ex K P J I (.inl (some (vI (bI (0 ≤ a ∧ a < n)))))) K P J I [vR (some 1000), vI a] := by
  refine Sp.ofV (by decide) (Or.inr rfl) rfl ?_
  refine VW.iload_n (pc' := 1) d_F_hasQuery_0 rfl rfl ?_
  refine VW.if_lt (tgt := 19) (pc' := 4) d_F_hasQuery_1 rfl rfl (fun c1 => ?_) (fun c1 => ?_)
  · refine VW.iconst (pc' := 20) d_F_hasQuery_19 rfl (by decide) ?_
    exact VW.iret d_F_hasQuery_20 rfl rfl (Nat.zero_le _) (Nat.zero_le _) (by first | exact ex_v (bI1 (by omega)) | exact ex_v (bI0 (by omega)))
  · refine VW.iload_n (pc' := 5) d_F_hasQuery_4 rfl rfl ?_
    refine VW.aload_n (pc' := 6) d_F_hasQuery_5 rfl rfl ?_
    refine VW.gP (ci := 10) (T := T10) (N := 11) (k := 4) (k' := 4) (pc' := 9) d_F_hasQuery_6 rfl lk_F_42 in10 rfl rfl rfl rfl (by first | exact hC.k 0 rfl | exact hC.k 9 rfl | exact hC.k 23 rfl | exact hC.k 39 rfl | exact hC.k 54 rfl | exact hC.k 55 rfl | exact hC.k 56 rfl) (by first | exact hC.p 0 rfl | exact hC.p 1 rfl | exact hC.p 2 rfl | exact hC.p 3 rfl | exact hC.p 4 rfl | exact hC.p 5 rfl | exact hC.p 6 rfl | exact hC.p 7 rfl | exact hC.p 18 rfl | rfl) ?_
    refine VW.cV (ci := 12) (T := T12) (N := 3) (pc' := 12) d_F_hasQuery_9 rfl mv_java_util_ArrayList_size lk_F_147 rfl (by first | exact hC.k 0 rfl | exact hC.k 9 rfl | exact hC.k 23 rfl | exact hC.k 39 rfl | exact hC.k 54 rfl | exact hC.k 55 rfl | exact hC.k 56 rfl) rfl rfl rfl (Nat.le_refl _) (Nat.le_refl _) (sp_java_util_ArrayList_size (hC.k 54 rfl)) rfl rfl ?_
    refine VW.icmp_ge (tgt := 19) (pc' := 15) d_F_hasQuery_12 rfl rfl (fun c12 => ?_) (fun c12 => ?_)
    · refine VW.iconst (pc' := 20) d_F_hasQuery_19 rfl (by decide) ?_
      exact VW.iret d_F_hasQuery_20 rfl rfl (Nat.zero_le _) (Nat.zero_le _) (by first | exact ex_v (bI1 (by omega)) | exact ex_v (bI0 (by omega)))
    · refine VW.iconst (pc' := 16) d_F_hasQuery_15 rfl (by decide) ?_
      refine VW.goto (pc' := 20) d_F_hasQuery_16 rfl ?_
      exact VW.iret d_F_hasQuery_20 rfl rfl (Nat.zero_le _) (Nat.zero_le _) (by first | exact ex_v (bI1 (by omega)) | exact ex_v (bI0 (by omega)))
theorem sp_F_hasView {n : Nat} {a : Int} (hC : ClW K P) (hz : I 1512 2 = n) : Sp m_F_hasView false (rmv 1 20) (ex K P J I (.inl (some (vI (bI (0 ≤ a ∧ a < n)))))) K P J I [vR (some 1000), vI a] := by
  refine Sp.ofV (by decide) (Or.inr rfl) rfl ?_
  refine VW.iload_n (pc' := 1) d_F_hasView_0 rfl rfl ?_
  refine VW.if_lt (tgt := 19) (pc' := 4) d_F_hasView_1 rfl rfl (fun c1 => ?_) (fun c1 => ?_)
  · refine VW.iconst (pc' := 20) d_F_hasView_19 rfl (by decide) ?_
    exact VW.iret d_F_hasView_20 rfl rfl (Nat.zero_le _) (Nat.zero_le _) (by first | exact ex_v (bI1 (by omega)) | exact ex_v (bI0 (by omega)))
  · refine VW.iload_n (pc' := 5) d_F_hasView_4 rfl rfl ?_
    refine VW.aload_n (pc' := 6) d_F_hasView_5 rfl rfl ?_
    refine VW.gP (ci := 10) (T := T10) (N := 11) (k := 5) (k' := 5) (pc' := 9) d_F_hasView_6 rfl lk_F_46 in10 rfl rfl rfl rfl (by first | exact hC.k 0 rfl | exact hC.k 9 rfl | exact hC.k 23 rfl | exact hC.k 39 rfl | exact hC.k 54 rfl | exact hC.k 55 rfl | exact hC.k 56 rfl) (by first | exact hC.p 0 rfl | exact hC.p 1 rfl | exact hC.p 2 rfl | exact hC.p 3 rfl | exact hC.p 4 rfl | exact hC.p 5 rfl | exact hC.p 6 rfl | exact hC.p 7 rfl | exact hC.p 18 rfl | rfl) ?_
    refine VW.cV (ci := 12) (T := T12) (N := 3) (pc' := 12) d_F_hasView_9 rfl mv_java_util_ArrayList_size lk_F_147 rfl (by first | exact hC.k 0 rfl | exact hC.k 9 rfl | exact hC.k 23 rfl | exact hC.k 39 rfl | exact hC.k 54 rfl | exact hC.k 55 rfl | exact hC.k 56 rfl) rfl rfl rfl (Nat.le_refl _) (Nat.le_refl _) (sp_java_util_ArrayList_size (hC.k 55 rfl)) rfl rfl ?_
    refine VW.icmp_ge (tgt := 19) (pc' := 15) d_F_hasView_12 rfl rfl (fun c12 => ?_) (fun c12 => ?_)
    · refine VW.iconst (pc' := 20) d_F_hasView_19 rfl (by decide) ?_
      exact VW.iret d_F_hasView_20 rfl rfl (Nat.zero_le _) (Nat.zero_le _) (by first | exact ex_v (bI1 (by omega)) | exact ex_v (bI0 (by omega)))
    · refine VW.iconst (pc' := 16) d_F_hasView_15 rfl (by decide) ?_
      refine VW.goto (pc' := 20) d_F_hasView_16 rfl ?_
      exact VW.iret d_F_hasView_20 rfl rfl (Nat.zero_le _) (Nat.zero_le _) (by first | exact ex_v (bI1 (by omega)) | exact ex_v (bI0 (by omega)))
end
