section
variable {K : KT} {P : PT} {J I : IT}
/-- the rows r of all tables: their cells are in the array a -/
def RwW (K : KT) (P : PT) (r a : Nat) : Prop := K r = some (6, 0) ∧ P r 0 = some a ∧ K a = some (100, 192)
/-- the place of a row of a table with a key; -1 -/
noncomputable def rwF (I : IT) (a : Nat) (t y : Int) : Int := fs (fun p => I a (p * 4) = y) (t * 8) 8
theorem rwF_rg (I : IT) (a : Nat) (t y : Int) : rwF I a t y = -1 ∨ (t * 8 ≤ rwF I a t y ∧ rwF I a t y < t * 8 + 8 ∧ I a (rwF I a t y * 4) = y) := by
  rcases fs_spec (fun p => I a (p * 4) = y) 8 (t * 8) with h | h
  · exact Or.inl h.1
  · exact Or.inr ⟨h.1, h.2.1, h.2.2.1⟩
noncomputable def rwFind (I : IT) (a : Nat) (t y : Int) : Int := if y = -2147483648 then -1 else rwF I a t y
theorem rwFind_rg (I : IT) (a : Nat) (t y : Int) : rwFind I a t y = -1 ∨ (t * 8 ≤ rwFind I a t y ∧ rwFind I a t y < t * 8 + 8 ∧ I a (rwFind I a t y * 4) = y) := by
  unfold rwFind
  split
  · exact Or.inl rfl
  · exact rwF_rg I a t y
noncomputable def rwCell (I : IT) (a : Nat) (t y c : Int) : Int := if rwFind I a t y = -1 then -2147483648 else I a (rwFind I a t y * 4 + c)
/-- how many rows a table has -/
noncomputable def rwCnt (I : IT) (a : Nat) (t : Int) : Nat → Int := cntI (fun k => I a ((t * 8 + k) * 4) ≠ -2147483648)
theorem sp_Rows_keyAt {r a : Nat} {p : Int} (hR : RwW K P r a) (hp : 0 ≤ p ∧ p < 48) : Sp m_Rows_keyAt false (rmv 0 0) (ex K P J I (.inl (some (vI (I a (p * 4)))))) K P J I [vR (some r), vI p] := by
  refine Sp.ofV (by decide) (Or.inr rfl) rfl ?_
  refine VW.aload_n (pc' := 1) d_Rows_keyAt_0 rfl rfl ?_
  refine VW.gP (ci := 6) (T := T6) (N := 1) (k := 0) (k' := 0) (pc' := 4) d_Rows_keyAt_1 rfl lk_Rows_9 in6 rfl rfl rfl rfl (by first | exact hR.1 | exact hR.2.2) (by first | exact hR.2.1 | rfl) ?_
  refine VW.iload_n (pc' := 5) d_Rows_keyAt_4 rfl rfl ?_
  refine VW.iconst (pc' := 6) d_Rows_keyAt_5 rfl (by decide) ?_
  refine VW.imul (pc' := 7) d_Rows_keyAt_6 rfl (by omega) ?_
  refine VW.ild (pc' := 8) d_Rows_keyAt_7 rfl (by first | exact hR.1 | exact hR.2.2) (by omega) (by omega) (by first | exact hR.2.1 | rfl) ?_
  exact VW.iret d_Rows_keyAt_8 rfl rfl (Nat.zero_le _) (Nat.zero_le _) ex_rf
theorem sp_Rows_startOf {p : Int} (hp : 0 ≤ p ∧ p < 48) : Sp m_Rows_startOf false (rmv 0 0) (ex K P J I (.inl (some (vI (p * 4))))) K P J I [vI p] := by
  refine Sp.ofV (by decide) (Or.inr rfl) rfl ?_
  refine VW.iload_n (pc' := 1) d_Rows_startOf_0 rfl rfl ?_
  refine VW.iconst (pc' := 2) d_Rows_startOf_1 rfl (by decide) ?_
  refine VW.imul (pc' := 3) d_Rows_startOf_2 rfl (by omega) ?_
  exact VW.iret d_Rows_startOf_3 rfl rfl (Nat.zero_le _) (Nat.zero_le _) ex_rf
theorem sp_Rows_firstWith {r a : Nat} {t y : Int} (hR : RwW K P r a) (ht : 0 ≤ t ∧ t < 6) : Sp m_Rows_firstWith false (rmv 0 0) (ex K P J I (.inl (some (vI (rwF I a t y))))) K P J I [vR (some r), vI t, vI y] := by
  refine Sp.ofV (by decide) (Or.inr rfl) rfl ?_
  have loop : ∀ (l : Nat) (p : Int), p + l = t * 8 + 8 → t * 8 ≤ p → fs (fun p => I a (p * 4) = y) p l = rwF I a t y → VW m_Rows_firstWith false (rmv 0 0) (ex K P J I (.inl (some (vI (rwF I a t y))))) K P J I 0 0 5 [(0, vR (some r)), (1, vI t), (2, vI y), (3, vI p)] [] := by
    intro l
    induction l with
    | zero =>
      intro p hp hp2 he
      have he' : -1 = rwF I a t y := he
      refine VW.iload_n (pc' := 6) d_Rows_firstWith_5 rfl rfl ?_
      refine VW.iload_n (pc' := 7) d_Rows_firstWith_6 rfl rfl ?_
      refine VW.iconst (pc' := 8) d_Rows_firstWith_7 rfl (by decide) ?_
      refine VW.iadd (pc' := 9) d_Rows_firstWith_8 rfl (by omega) ?_
      refine VW.bipush (pc' := 11) d_Rows_firstWith_9 rfl (by decide) ?_
      refine VW.imul (pc' := 12) d_Rows_firstWith_11 rfl (by omega) ?_
      refine VW.icmp_ge (tgt := 35) (pc' := 15) d_Rows_firstWith_12 rfl rfl (fun c12 => ?_) (fun c12 => ?_)
      · refine VW.iconst (pc' := 36) d_Rows_firstWith_35 rfl (by decide) ?_
        exact VW.iret d_Rows_firstWith_36 rfl rfl (Nat.zero_le _) (Nat.zero_le _) (by rw [← he']; exact ex_rf)
      · exfalso; omega
    | succ l ih =>
      intro p hp hp2 he
      have n := fun (z : ¬ I a (p * 4) = y) => ih (p + 1) (by omega) (by omega) ((fs_no (g := fun p => I a (p * 4) = y) z).symm.trans he)
      have e := fun (z : I a (p * 4) = y) => (fs_yes (g := fun p => I a (p * 4) = y) (n := l) z).symm.trans he
      clear ih he
      refine VW.iload_n (pc' := 6) d_Rows_firstWith_5 rfl rfl ?_
      refine VW.iload_n (pc' := 7) d_Rows_firstWith_6 rfl rfl ?_
      refine VW.iconst (pc' := 8) d_Rows_firstWith_7 rfl (by decide) ?_
      refine VW.iadd (pc' := 9) d_Rows_firstWith_8 rfl (by omega) ?_
      refine VW.bipush (pc' := 11) d_Rows_firstWith_9 rfl (by decide) ?_
      refine VW.imul (pc' := 12) d_Rows_firstWith_11 rfl (by omega) ?_
      refine VW.icmp_ge (tgt := 35) (pc' := 15) d_Rows_firstWith_12 rfl rfl (fun c12 => ?_) (fun c12 => ?_)
      · exfalso; omega
      · refine VW.aload_n (pc' := 16) d_Rows_firstWith_15 rfl rfl ?_
        refine VW.gP (ci := 6) (T := T6) (N := 1) (k := 0) (k' := 0) (pc' := 19) d_Rows_firstWith_16 rfl lk_Rows_9 in6 rfl rfl rfl rfl (by first | exact hR.1 | exact hR.2.2) (by first | exact hR.2.1 | rfl) ?_
        refine VW.iload_n (pc' := 20) d_Rows_firstWith_19 rfl rfl ?_
        refine VW.iconst (pc' := 21) d_Rows_firstWith_20 rfl (by decide) ?_
        refine VW.imul (pc' := 22) d_Rows_firstWith_21 rfl (by omega) ?_
        refine VW.ild (pc' := 23) d_Rows_firstWith_22 rfl (by first | exact hR.1 | exact hR.2.2) (by omega) (by omega) (by first | exact hR.2.1 | rfl) ?_
        refine VW.iload_n (pc' := 24) d_Rows_firstWith_23 rfl rfl ?_
        refine VW.icmp_ne (tgt := 29) (pc' := 27) d_Rows_firstWith_24 rfl rfl (fun c24 => ?_) (fun c24 => ?_)
        · refine VW.iinc (pc' := 32) d_Rows_firstWith_29 rfl rfl rfl (by omega) ?_
          refine VW.goto (pc' := 5) d_Rows_firstWith_32 rfl ?_
          refine VW.nrm ?_
          exact n c24
        · refine VW.iload_n (pc' := 28) d_Rows_firstWith_27 rfl rfl ?_
          exact VW.iret d_Rows_firstWith_28 rfl rfl (Nat.zero_le _) (Nat.zero_le _) (ex_v (e c24).symm)
  have l := loop 8 (t * 8) (by omega) (Int.le_refl _) rfl
  clear loop
  refine VW.iload_n (pc' := 1) d_Rows_firstWith_0 rfl rfl ?_
  refine VW.bipush (pc' := 3) d_Rows_firstWith_1 rfl (by decide) ?_
  refine VW.imul (pc' := 4) d_Rows_firstWith_3 rfl (by omega) ?_
  refine VW.istore_n (pc' := 5) d_Rows_firstWith_4 rfl rfl ?_
  refine VW.nrm ?_
  exact l
theorem sp_Rows_find {r a : Nat} {t y : Int} (hR : RwW K P r a) (ht : 0 ≤ t ∧ t < 6) : Sp m_Rows_find false (rmv 1 23) (ex K P J I (.inl (some (vI (rwFind I a t y))))) K P J I [vR (some r), vI t, vI y] := by
  refine Sp.ofV (by decide) (Or.inr rfl) rfl ?_
  refine VW.iload_n (pc' := 1) d_Rows_find_0 rfl rfl ?_
  refine VW.ldc (pc' := 3) (z := -2147483648) d_Rows_find_1 rfl lk_Rows_15 (by decide) (by decide) ?_
  refine VW.icmp_ne (tgt := 10) (pc' := 6) d_Rows_find_3 rfl rfl (fun c3 => ?_) (fun c3 => ?_)
  · refine VW.aload_n (pc' := 11) d_Rows_find_10 rfl rfl ?_
    refine VW.iload_n (pc' := 12) d_Rows_find_11 rfl rfl ?_
    refine VW.iload_n (pc' := 13) d_Rows_find_12 rfl rfl ?_
    refine VW.cV (ci := 6) (T := T6) (N := 1) (pc' := 16) d_Rows_find_13 rfl mv_Rows_firstWith lk_Rows_28 rfl (by first | exact hR.1 | exact hR.2.2) rfl rfl rfl (Nat.le_refl _) (Nat.le_refl _) (sp_Rows_firstWith hR ht) rfl rfl ?_
    exact VW.iret d_Rows_find_16 rfl rfl (Nat.zero_le _) (Nat.zero_le _) (by first | exact ex_v (if_pos c3) | exact ex_v (if_neg c3))
  · refine VW.iconst (pc' := 7) d_Rows_find_6 rfl (by decide) ?_
    refine VW.goto (pc' := 16) d_Rows_find_7 rfl ?_
    exact VW.iret d_Rows_find_16 rfl rfl (Nat.zero_le _) (Nat.zero_le _) (by first | exact ex_v (if_pos c3) | exact ex_v (if_neg c3))
theorem sp_Rows_findFree {r a : Nat} {t : Int} (hR : RwW K P r a) (ht : 0 ≤ t ∧ t < 6) : Sp m_Rows_findFree false (rmv 1 23) (ex K P J I (.inl (some (vI (rwF I a t (-2147483648)))))) K P J I [vR (some r), vI t] := by
  refine Sp.ofV (by decide) (Or.inr rfl) rfl ?_
  refine VW.aload_n (pc' := 1) d_Rows_findFree_0 rfl rfl ?_
  refine VW.iload_n (pc' := 2) d_Rows_findFree_1 rfl rfl ?_
  refine VW.ldc (pc' := 4) (z := -2147483648) d_Rows_findFree_2 rfl lk_Rows_15 (by decide) (by decide) ?_
  refine VW.cV (ci := 6) (T := T6) (N := 1) (pc' := 7) d_Rows_findFree_4 rfl mv_Rows_firstWith lk_Rows_28 rfl (by first | exact hR.1 | exact hR.2.2) rfl rfl rfl (Nat.le_refl _) (Nat.le_refl _) (sp_Rows_firstWith hR ht) rfl rfl ?_
  exact VW.iret d_Rows_findFree_7 rfl rfl (Nat.zero_le _) (Nat.zero_le _) ex_rf
theorem sp_Rows_cellOf {r a : Nat} {t y c : Int} (hR : RwW K P r a) (ht : 0 ≤ t ∧ t < 6) (hc : 0 ≤ c ∧ c < 4) : Sp m_Rows_cellOf false (rmv 2 45) (ex K P J I (.inl (some (vI (rwCell I a t y c))))) K P J I [vR (some r), vI t, vI y, vI c] := by
  refine Sp.ofV (by decide) (Or.inr rfl) rfl ?_
  have rg := rwFind_rg I a t y
  refine VW.aload_n (pc' := 1) d_Rows_cellOf_0 rfl rfl ?_
  refine VW.iload_n (pc' := 2) d_Rows_cellOf_1 rfl rfl ?_
  refine VW.iload_n (pc' := 3) d_Rows_cellOf_2 rfl rfl ?_
  refine VW.cV (ci := 6) (T := T6) (N := 1) (pc' := 6) d_Rows_cellOf_3 rfl mv_Rows_find lk_Rows_36 rfl (by first | exact hR.1 | exact hR.2.2) rfl rfl rfl (Nat.le_refl _) (Nat.le_refl _) (sp_Rows_find hR ht) rfl rfl ?_
  refine VW.istore (pc' := 8) d_Rows_cellOf_6 rfl rfl ?_
  refine VW.iload (pc' := 10) d_Rows_cellOf_8 rfl rfl ?_
  refine VW.iconst (pc' := 11) d_Rows_cellOf_10 rfl (by decide) ?_
  refine VW.icmp_ne (tgt := 19) (pc' := 14) d_Rows_cellOf_11 rfl rfl (fun c11 => ?_) (fun c11 => ?_)
  · refine VW.aload_n (pc' := 20) d_Rows_cellOf_19 rfl rfl ?_
    refine VW.gP (ci := 6) (T := T6) (N := 1) (k := 0) (k' := 0) (pc' := 23) d_Rows_cellOf_20 rfl lk_Rows_9 in6 rfl rfl rfl rfl (by first | exact hR.1 | exact hR.2.2) (by first | exact hR.2.1 | rfl) ?_
    refine VW.iload (pc' := 25) d_Rows_cellOf_23 rfl rfl ?_
    refine VW.cS (pc' := 28) d_Rows_cellOf_25 rfl ms_Rows_startOf lk_Rows_39 rfl rfl rfl (Nat.le_refl _) (Nat.le_refl _) (sp_Rows_startOf (by omega)) rfl rfl ?_
    refine VW.iload_n (pc' := 29) d_Rows_cellOf_28 rfl rfl ?_
    refine VW.iadd (pc' := 30) d_Rows_cellOf_29 rfl (by omega) ?_
    refine VW.ild (pc' := 31) d_Rows_cellOf_30 rfl (by first | exact hR.1 | exact hR.2.2) (by omega) (by omega) (by first | exact hR.2.1 | rfl) ?_
    exact VW.iret d_Rows_cellOf_31 rfl rfl (Nat.zero_le _) (Nat.zero_le _) (by first | exact ex_v (if_pos c11) | exact ex_v (if_neg c11))
  · refine VW.ldc (pc' := 16) (z := -2147483648) d_Rows_cellOf_14 rfl lk_Rows_15 (by decide) (by decide) ?_
    refine VW.goto (pc' := 31) d_Rows_cellOf_16 rfl ?_
    exact VW.iret d_Rows_cellOf_31 rfl rfl (Nat.zero_le _) (Nat.zero_le _) (by first | exact ex_v (if_pos c11) | exact ex_v (if_neg c11))
theorem sp_Rows_count {r a : Nat} {t : Int} (hR : RwW K P r a) (ht : 0 ≤ t ∧ t < 6) : Sp m_Rows_count false (rmv 1 21) (ex K P J I (.inl (some (vI (rwCnt I a t 8))))) K P J I [vR (some r), vI t] := by
  refine Sp.ofV (by decide) (Or.inr rfl) rfl ?_
  have loop : ∀ (l m : Nat), m + l = 8 → VW m_Rows_count false (rmv 1 21) (ex K P J I (.inl (some (vI (rwCnt I a t 8))))) K P J I 0 0 4 [(0, vR (some r)), (1, vI t), (2, vI (rwCnt I a t m)), (3, vI (m : Int))] [] := by
    intro l
    induction l with
    | zero =>
      intro m hm
      have em : m = 8 := by omega
      subst em
      refine VW.iload_n (pc' := 5) d_Rows_count_4 rfl rfl ?_
      refine VW.bipush (pc' := 7) d_Rows_count_5 rfl (by decide) ?_
      refine VW.icmp_ge (tgt := 34) (pc' := 10) d_Rows_count_7 rfl rfl (fun c7 => ?_) (fun c7 => ?_)
      · refine VW.iload_n (pc' := 35) d_Rows_count_34 rfl rfl ?_
        exact VW.iret d_Rows_count_35 rfl rfl (Nat.zero_le _) (Nat.zero_le _) ex_rf
      · exfalso; omega
    | succ l ih =>
      intro m hm
      have nx := ih (m + 1) (by omega)
      have em : ((m + 1 : Nat) : Int) = (m : Int) + 1 := by omega
      rw [em] at nx
      have rg : 0 ≤ rwCnt I a t m ∧ rwCnt I a t m ≤ m := cntI_rg _ m
      have y : I a ((t * 8 + m) * 4) ≠ -2147483648 → rwCnt I a t m + 1 = rwCnt I a t (m + 1) := fun z => cntI_yes (g := fun k : Int => I a ((t * 8 + k) * 4) ≠ -2147483648) (n := m) z
      have n : ¬ I a ((t * 8 + m) * 4) ≠ -2147483648 → rwCnt I a t m = rwCnt I a t (m + 1) := fun z => by have e : rwCnt I a t m + 0 = rwCnt I a t (m + 1) := cntI_no (g := fun k : Int => I a ((t * 8 + k) * 4) ≠ -2147483648) (n := m) z; omega
      clear ih
      refine VW.iload_n (pc' := 5) d_Rows_count_4 rfl rfl ?_
      refine VW.bipush (pc' := 7) d_Rows_count_5 rfl (by decide) ?_
      refine VW.icmp_ge (tgt := 34) (pc' := 10) d_Rows_count_7 rfl rfl (fun c7 => ?_) (fun c7 => ?_)
      · exfalso; omega
      · refine VW.aload_n (pc' := 11) d_Rows_count_10 rfl rfl ?_
        refine VW.iload_n (pc' := 12) d_Rows_count_11 rfl rfl ?_
        refine VW.bipush (pc' := 14) d_Rows_count_12 rfl (by decide) ?_
        refine VW.imul (pc' := 15) d_Rows_count_14 rfl (by omega) ?_
        refine VW.iload_n (pc' := 16) d_Rows_count_15 rfl rfl ?_
        refine VW.iadd (pc' := 17) d_Rows_count_16 rfl (by omega) ?_
        refine VW.cV (ci := 6) (T := T6) (N := 1) (pc' := 20) d_Rows_count_17 rfl mv_Rows_keyAt lk_Rows_32 rfl (by first | exact hR.1 | exact hR.2.2) rfl rfl rfl (Nat.le_refl _) (Nat.le_refl _) (sp_Rows_keyAt hR (by omega)) rfl rfl ?_
        refine VW.ldc (pc' := 22) (z := -2147483648) d_Rows_count_20 rfl lk_Rows_15 (by decide) (by decide) ?_
        refine VW.icmp_eq (tgt := 28) (pc' := 25) d_Rows_count_22 rfl rfl (fun c22 => ?_) (fun c22 => ?_)
        · refine VW.iinc (pc' := 31) d_Rows_count_28 rfl rfl rfl (by omega) ?_
          refine VW.goto (pc' := 4) d_Rows_count_31 rfl ?_
          refine VW.nrm ?_
          first | (rw [y c22]; exact nx) | (rw [n (fun h => h c22)]; exact nx)
        · refine VW.iinc (pc' := 28) d_Rows_count_25 rfl rfl rfl (by omega) ?_
          refine VW.iinc (pc' := 31) d_Rows_count_28 rfl rfl rfl (by omega) ?_
          refine VW.goto (pc' := 4) d_Rows_count_31 rfl ?_
          refine VW.nrm ?_
          first | (rw [y c22]; exact nx) | (rw [n (fun h => h c22)]; exact nx)
  have l := loop 8 0 (by omega)
  clear loop
  refine VW.iconst (pc' := 1) d_Rows_count_0 rfl (by decide) ?_
  refine VW.istore_n (pc' := 2) d_Rows_count_1 rfl rfl ?_
  refine VW.iconst (pc' := 3) d_Rows_count_2 rfl (by decide) ?_
  refine VW.istore_n (pc' := 4) d_Rows_count_3 rfl rfl ?_
  refine VW.nrm ?_
  exact l
theorem sp_Rows_put {r a : Nat} {b n : Nat} {p f : Int} (hR : RwW K P r a) (hp : 0 ≤ p ∧ p < 48) (hb : K b = some (100, n)) (hf : 0 ≤ f ∧ f + 4 ≤ n) : Sp m_Rows_put false (rmv 1 50) (ex K P J (cpyI I b f a (p * 4) 4) (.inl none)) K P J I [vR (some r), vI p, vR (some b), vI f] := by
  refine Sp.ofV (by decide) (Or.inr rfl) rfl ?_
  refine VW.aload_n (pc' := 1) d_Rows_put_0 rfl rfl ?_
  refine VW.iload_n (pc' := 2) d_Rows_put_1 rfl rfl ?_
  refine VW.aload_n (pc' := 3) d_Rows_put_2 rfl rfl ?_
  refine VW.gP (ci := 6) (T := T6) (N := 1) (k := 0) (k' := 0) (pc' := 6) d_Rows_put_3 rfl lk_Rows_9 in6 rfl rfl rfl rfl (by first | exact hR.1 | exact hR.2.2) (by first | exact hR.2.1 | rfl) ?_
  refine VW.iload_n (pc' := 7) d_Rows_put_6 rfl rfl ?_
  refine VW.cS (pc' := 10) d_Rows_put_7 rfl ms_Rows_startOf lk_Rows_39 rfl rfl rfl (Nat.le_refl _) (Nat.le_refl _) (sp_Rows_startOf hp) rfl rfl ?_
  refine VW.iconst (pc' := 11) d_Rows_put_10 rfl (by decide) ?_
  refine VW.copyi (pc' := 14) d_Rows_put_11 rfl lk_Rows_22 hb hR.2.2 (by omega) (by omega) (by omega) (by omega) (by omega) rfl rfl ?_
  exact VW.vret d_Rows_put_14 rfl (Nat.zero_le _) (Nat.zero_le _) ex_rf
theorem sp_Rows_remove {r a : Nat} {p : Int} (hR : RwW K P r a) (hp : 0 ≤ p ∧ p < 48) : Sp m_Rows_remove false (rmv 2 70) (ex K P J (filI I a (p * 4) (p * 4 + 4) (-2147483648)) (.inl none)) K P J I [vR (some r), vI p] := by
  refine Sp.ofV (by decide) (Or.inr rfl) rfl ?_
  refine VW.aload_n (pc' := 1) d_Rows_remove_0 rfl rfl ?_
  refine VW.gP (ci := 6) (T := T6) (N := 1) (k := 0) (k' := 0) (pc' := 4) d_Rows_remove_1 rfl lk_Rows_9 in6 rfl rfl rfl rfl (by first | exact hR.1 | exact hR.2.2) (by first | exact hR.2.1 | rfl) ?_
  refine VW.iload_n (pc' := 5) d_Rows_remove_4 rfl rfl ?_
  refine VW.cS (pc' := 8) d_Rows_remove_5 rfl ms_Rows_startOf lk_Rows_39 rfl rfl rfl (Nat.le_refl _) (Nat.le_refl _) (sp_Rows_startOf hp) rfl rfl ?_
  refine VW.iload_n (pc' := 9) d_Rows_remove_8 rfl rfl ?_
  refine VW.cS (pc' := 12) d_Rows_remove_9 rfl ms_Rows_startOf lk_Rows_39 rfl rfl rfl (Nat.le_refl _) (Nat.le_refl _) (sp_Rows_startOf hp) rfl rfl ?_
  refine VW.iconst (pc' := 13) d_Rows_remove_12 rfl (by decide) ?_
  refine VW.iadd (pc' := 14) d_Rows_remove_13 rfl (by omega) ?_
  refine VW.ldc (pc' := 16) (z := -2147483648) d_Rows_remove_14 rfl lk_Rows_15 (by decide) (by decide) ?_
  refine VW.cS (pc' := 19) d_Rows_remove_16 rfl ms_java_util_Arrays_fill_IIIIV lk_Rows_42 rfl rfl rfl (Nat.le_refl _) (Nat.le_refl _) (sp_fill4 hR.2.2 (by decide) (by omega) (by omega) (by omega)) rfl rfl ?_
  exact VW.vret d_Rows_remove_19 rfl (Nat.zero_le _) (Nat.zero_le _) ex_rf
theorem sp_Rows_copyFrom {r a s b : Nat} (hR : RwW K P r a) (hS : RwW K P s b) : Sp m_Rows_copyFrom false (rmv 1 50) (ex K P J (cpyI I b 0 a 0 192) (.inl none)) K P J I [vR (some r), vR (some s)] := by
  refine Sp.ofV (by decide) (Or.inr rfl) rfl ?_
  refine VW.aload_n (pc' := 1) d_Rows_copyFrom_0 rfl rfl ?_
  refine VW.gP (ci := 6) (T := T6) (N := 1) (k := 0) (k' := 0) (pc' := 4) d_Rows_copyFrom_1 rfl lk_Rows_9 in6 rfl rfl rfl rfl (by first | exact hS.1 | exact hR.1 | exact hR.2.2) (by first | exact hS.2.1 | exact hR.2.1) ?_
  refine VW.iconst (pc' := 5) d_Rows_copyFrom_4 rfl (by decide) ?_
  refine VW.aload_n (pc' := 6) d_Rows_copyFrom_5 rfl rfl ?_
  refine VW.gP (ci := 6) (T := T6) (N := 1) (k := 0) (k' := 0) (pc' := 9) d_Rows_copyFrom_6 rfl lk_Rows_9 in6 rfl rfl rfl rfl (by first | exact hS.1 | exact hR.1 | exact hR.2.2) (by first | exact hS.2.1 | exact hR.2.1) ?_
  refine VW.iconst (pc' := 10) d_Rows_copyFrom_9 rfl (by decide) ?_
  refine VW.aload_n (pc' := 11) d_Rows_copyFrom_10 rfl rfl ?_
  refine VW.gP (ci := 6) (T := T6) (N := 1) (k := 0) (k' := 0) (pc' := 14) d_Rows_copyFrom_11 rfl lk_Rows_9 in6 rfl rfl rfl rfl (by first | exact hS.1 | exact hR.1 | exact hR.2.2) (by first | exact hS.2.1 | exact hR.2.1) ?_
  refine VW.alen (pc' := 15) d_Rows_copyFrom_14 rfl (by first | exact hS.1 | exact hR.1 | exact hR.2.2) (by simp) (by omega) ?_
  refine VW.copyi (pc' := 18) d_Rows_copyFrom_15 rfl lk_Rows_22 hS.2.2 hR.2.2 (by omega) (by omega) (by omega) (by omega) (by omega) rfl rfl ?_
  exact VW.vret d_Rows_copyFrom_18 rfl (Nat.zero_le _) (Nat.zero_le _) ex_rf
end
