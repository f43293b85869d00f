/-! the reference: its object is the name 100, the array in its field k the name 200 + k -/
def KL : List (Option (Nat × Nat)) := [none, some (100, 6), some (100, 6), some (100, 24), some (100, 24), some (100, 24), some (100, 24), some (100, 24), none, some (100, 12), some (100, 12), some (100, 12), some (100, 12), some (100, 12), some (100, 30), some (100, 7680), none, some (100, 12006), some (100, 6), none, some (100, 60), some (100, 60), some (100, 60), some (100, 60), some (100, 60), some (100, 60), some (101, 4), some (100, 60), some (100, 60), some (100, 60), some (100, 60), some (100, 60), some (100, 240), some (100, 60), some (100, 122880), some (100, 122880), some (101, 360), none, some (100, 4), some (101, 384), some (101, 384), none, some (100, 384), some (100, 384), none, none, some (100, 16384), some (100, 16384), some (100, 16384), some (100, 16384), none, none, none, some (100, 6), some (100, 6), none, some (100, 252), some (100, 252), some (100, 252), some (100, 252), some (101, 252), none, some (100, 20), some (101, 20), some (100, 20), some (100, 20), some (100, 80), none, none, some (100, 6), some (100, 800000), none, some (100, 12), some (100, 12), some (100, 12), none, some (100, 400000), none, none, some (100, 12), some (100, 12), some (100, 12), some (100, 12), some (100, 24), none, some (100, 4), some (100, 4), some (102, 4), none, some (100, 12), some (100, 12), some (100, 6), some (100, 24), none]
def KM (o : Nat) : Option (Nat × Nat) := bif Nat.beq o 100 then some (11, 0) else bif Nat.ble 200 o then (KL[o - 200]?).getD none else none
def PM (k : Nat) : Option Nat := bif isP 11 k then some (200 + k) else none
/-- the reference's object and arrays are there -/
def MW (K : KT) (P : PT) : Prop := (∀ o kd, KM o = some kd → K o = some kd) ∧ ∀ (k : Nat), k < 94 → P 100 (k : Int) = PM k
theorem MW.k {K : KT} {P : PT} (h : MW K P) {o : Nat} {kd : Nat × Nat} (e : KM o = some kd) : K o = some kd := h.1 o kd e
theorem MW.p {K : KT} {P : PT} (h : MW K P) (k : Nat) {r : Option Nat} (hk : Nat.ble (k + 1) 94 = true) (e : PM k = r) : P 100 (k : Int) = r := (h.2 k (Nat.le_of_ble_eq_true hk)).trans e
section
variable {K : KT} {P : PT} {J I : IT}
theorem sp_Model_isIn {v a b : Int} : Sp m_Model_isIn false (rmv 0 0) (ex K P J I (.inl (some (vI (bI (a ≤ v ∧ v ≤ b)))))) K P J I [vI v, vI a, vI b] := by
  refine Sp.ofV (by decide) (Or.inr rfl) rfl ?_
  refine VW.iload_n (pc' := 1) d_Model_isIn_0 rfl rfl ?_
  refine VW.iload_n (pc' := 2) d_Model_isIn_1 rfl rfl ?_
  refine VW.icmp_lt (tgt := 14) (pc' := 5) d_Model_isIn_2 rfl rfl (fun c2 => ?_) (fun c2 => ?_)
  · refine VW.iconst (pc' := 15) d_Model_isIn_14 rfl (by decide) ?_
    exact VW.iret d_Model_isIn_15 rfl rfl (Nat.zero_le _) (Nat.zero_le _) (by first | (rw [bI1 (by omega)]; exact ex_rf) | (rw [bI0 (by omega)]; exact ex_rf))
  · refine VW.iload_n (pc' := 6) d_Model_isIn_5 rfl rfl ?_
    refine VW.iload_n (pc' := 7) d_Model_isIn_6 rfl rfl ?_
    refine VW.icmp_gt (tgt := 14) (pc' := 10) d_Model_isIn_7 rfl rfl (fun c7 => ?_) (fun c7 => ?_)
    · refine VW.iconst (pc' := 15) d_Model_isIn_14 rfl (by decide) ?_
      exact VW.iret d_Model_isIn_15 rfl rfl (Nat.zero_le _) (Nat.zero_le _) (by first | (rw [bI1 (by omega)]; exact ex_rf) | (rw [bI0 (by omega)]; exact ex_rf))
    · refine VW.iconst (pc' := 11) d_Model_isIn_10 rfl (by decide) ?_
      refine VW.goto (pc' := 15) d_Model_isIn_11 rfl ?_
      exact VW.iret d_Model_isIn_15 rfl rfl (Nat.zero_le _) (Nat.zero_le _) (by first | (rw [bI1 (by omega)]; exact ex_rf) | (rw [bI0 (by omega)]; exact ex_rf))
theorem sp_Model_least {a b : Int} : Sp m_Model_least false (rmv 0 0) (ex K P J I (.inl (some (vI (if a < b then a else b))))) K P J I [vI a, vI b] := by
  refine Sp.ofV (by decide) (Or.inr rfl) rfl ?_
  refine VW.iload_n (pc' := 1) d_Model_least_0 rfl rfl ?_
  refine VW.iload_n (pc' := 2) d_Model_least_1 rfl rfl ?_
  refine VW.icmp_ge (tgt := 9) (pc' := 5) d_Model_least_2 rfl rfl (fun c2 => ?_) (fun c2 => ?_)
  · refine VW.iload_n (pc' := 10) d_Model_least_9 rfl rfl ?_
    exact VW.iret d_Model_least_10 rfl rfl (Nat.zero_le _) (Nat.zero_le _) (by first | (rw [if_pos (by omega)]; exact ex_rf) | (rw [if_neg (by omega)]; exact ex_rf))
  · refine VW.iload_n (pc' := 6) d_Model_least_5 rfl rfl ?_
    refine VW.goto (pc' := 10) d_Model_least_6 rfl ?_
    exact VW.iret d_Model_least_10 rfl rfl (Nat.zero_le _) (Nat.zero_le _) (by first | (rw [if_pos (by omega)]; exact ex_rf) | (rw [if_neg (by omega)]; exact ex_rf))
theorem sp_Model_isHow {h : Int} : Sp m_Model_isHow false (rmv 1 22) (ex K P J I (.inl (some (vI (bI (0 ≤ h ∧ h ≤ 2)))))) K P J I [vI h] := by
  refine Sp.ofV (by decide) (Or.inr rfl) rfl ?_
  refine VW.iload_n (pc' := 1) d_Model_isHow_0 rfl rfl ?_
  refine VW.iconst (pc' := 2) d_Model_isHow_1 rfl (by decide) ?_
  refine VW.iconst (pc' := 3) d_Model_isHow_2 rfl (by decide) ?_
  refine VW.cS (pc' := 6) d_Model_isHow_3 rfl ms_Model_isIn lk_Model_235 rfl rfl rfl (Nat.le_refl _) (Nat.le_refl _) (sp_Model_isIn) rfl rfl ?_
  exact VW.iret d_Model_isHow_6 rfl (narZ (bI_01 _)) (Nat.zero_le _) (Nat.zero_le _) ex_rf
theorem sp_Model_isValue {h : Int} : Sp m_Model_isValue false (rmv 1 22) (ex K P J I (.inl (some (vI (bI (-1000 ≤ h ∧ h ≤ 1000)))))) K P J I [vI h] := by
  refine Sp.ofV (by decide) (Or.inr rfl) rfl ?_
  refine VW.iload_n (pc' := 1) d_Model_isValue_0 rfl rfl ?_
  refine VW.sipush (pc' := 4) d_Model_isValue_1 rfl (by decide) ?_
  refine VW.sipush (pc' := 7) d_Model_isValue_4 rfl (by decide) ?_
  refine VW.cS (pc' := 10) d_Model_isValue_7 rfl ms_Model_isIn lk_Model_235 rfl rfl rfl (Nat.le_refl _) (Nat.le_refl _) (sp_Model_isIn) rfl rfl ?_
  exact VW.iret d_Model_isValue_10 rfl (narZ (bI_01 _)) (Nat.zero_le _) (Nat.zero_le _) ex_rf
theorem sp_Model_isTable {t : Int} (hM : MW K P) (h0 : 0 ≤ I 100 0) : Sp m_Model_isTable false (rmv 1 22) (ex K P J I (.inl (some (vI (bI (0 ≤ t ∧ t < I 100 0)))))) K P J I [vR (some 100), vI t] := by
  refine Sp.ofV (by decide) (Or.inr rfl) rfl ?_
  refine VW.know (fun hwf hws hwl => ?_)
  have b0 := hwf.1 100 0
  refine VW.iload_n (pc' := 1) d_Model_isTable_0 rfl rfl ?_
  refine VW.iconst (pc' := 2) d_Model_isTable_1 rfl (by decide) ?_
  refine VW.aload_n (pc' := 3) d_Model_isTable_2 rfl rfl ?_
  refine VW.gI (ci := 11) (T := T11) (N := 94) (k := 0) (k' := 0) (pc' := 6) d_Model_isTable_3 rfl lk_Model_239 in11 rfl rfl rfl rfl (hM.k rfl) (by first | assumption | (simp [up2] <;> rfl) | rfl) ?_
  refine VW.iconst (pc' := 7) d_Model_isTable_6 rfl (by decide) ?_
  refine VW.isub (pc' := 8) d_Model_isTable_7 rfl (by omega) ?_
  refine VW.cS (pc' := 11) d_Model_isTable_8 rfl ms_Model_isIn lk_Model_235 rfl rfl rfl (Nat.le_refl _) (Nat.le_refl _) (sp_Model_isIn) rfl rfl ?_
  exact VW.iret d_Model_isTable_11 rfl (narZ (bI_01 _)) (Nat.zero_le _) (Nat.zero_le _) (by rw [show bI (0 ≤ t ∧ t < I 100 0) = bI (0 ≤ t ∧ t ≤ I 100 0 - 1) from bIc (by omega)]; exact ex_rf)
theorem sp_Model_isTransaction {t : Int} (hM : MW K P) (h0 : 0 ≤ I 100 19) : Sp m_Model_isTransaction false (rmv 1 22) (ex K P J I (.inl (some (vI (bI (0 ≤ t ∧ t < I 100 19)))))) K P J I [vR (some 100), vI t] := by
  refine Sp.ofV (by decide) (Or.inr rfl) rfl ?_
  refine VW.know (fun hwf hws hwl => ?_)
  have b19 := hwf.1 100 19
  refine VW.iload_n (pc' := 1) d_Model_isTransaction_0 rfl rfl ?_
  refine VW.iconst (pc' := 2) d_Model_isTransaction_1 rfl (by decide) ?_
  refine VW.aload_n (pc' := 3) d_Model_isTransaction_2 rfl rfl ?_
  refine VW.gI (ci := 11) (T := T11) (N := 94) (k := 19) (k' := 19) (pc' := 6) d_Model_isTransaction_3 rfl lk_Model_247 in11 rfl rfl rfl rfl (hM.k rfl) (by first | assumption | (simp [up2] <;> rfl) | rfl) ?_
  refine VW.iconst (pc' := 7) d_Model_isTransaction_6 rfl (by decide) ?_
  refine VW.isub (pc' := 8) d_Model_isTransaction_7 rfl (by omega) ?_
  refine VW.cS (pc' := 11) d_Model_isTransaction_8 rfl ms_Model_isIn lk_Model_235 rfl rfl rfl (Nat.le_refl _) (Nat.le_refl _) (sp_Model_isIn) rfl rfl ?_
  exact VW.iret d_Model_isTransaction_11 rfl (narZ (bI_01 _)) (Nat.zero_le _) (Nat.zero_le _) (by rw [show bI (0 ≤ t ∧ t < I 100 19) = bI (0 ≤ t ∧ t ≤ I 100 19 - 1) from bIc (by omega)]; exact ex_rf)
theorem sp_Model_isQuery {t : Int} (hM : MW K P) (h0 : 0 ≤ I 100 61) : Sp m_Model_isQuery false (rmv 1 22) (ex K P J I (.inl (some (vI (bI (0 ≤ t ∧ t < I 100 61)))))) K P J I [vR (some 100), vI t] := by
  refine Sp.ofV (by decide) (Or.inr rfl) rfl ?_
  refine VW.know (fun hwf hws hwl => ?_)
  have b61 := hwf.1 100 61
  refine VW.iload_n (pc' := 1) d_Model_isQuery_0 rfl rfl ?_
  refine VW.iconst (pc' := 2) d_Model_isQuery_1 rfl (by decide) ?_
  refine VW.aload_n (pc' := 3) d_Model_isQuery_2 rfl rfl ?_
  refine VW.gI (ci := 11) (T := T11) (N := 94) (k := 61) (k' := 61) (pc' := 6) d_Model_isQuery_3 rfl lk_Model_428 in11 rfl rfl rfl rfl (hM.k rfl) (by first | assumption | (simp [up2] <;> rfl) | rfl) ?_
  refine VW.iconst (pc' := 7) d_Model_isQuery_6 rfl (by decide) ?_
  refine VW.isub (pc' := 8) d_Model_isQuery_7 rfl (by omega) ?_
  refine VW.cS (pc' := 11) d_Model_isQuery_8 rfl ms_Model_isIn lk_Model_235 rfl rfl rfl (Nat.le_refl _) (Nat.le_refl _) (sp_Model_isIn) rfl rfl ?_
  exact VW.iret d_Model_isQuery_11 rfl (narZ (bI_01 _)) (Nat.zero_le _) (Nat.zero_le _) (by rw [show bI (0 ≤ t ∧ t < I 100 61) = bI (0 ≤ t ∧ t ≤ I 100 61 - 1) from bIc (by omega)]; exact ex_rf)
theorem sp_Model_isView {t : Int} (hM : MW K P) (h0 : 0 ≤ I 100 68) : Sp m_Model_isView false (rmv 1 22) (ex K P J I (.inl (some (vI (bI (0 ≤ t ∧ t < I 100 68)))))) K P J I [vR (some 100), vI t] := by
  refine Sp.ofV (by decide) (Or.inr rfl) rfl ?_
  refine VW.know (fun hwf hws hwl => ?_)
  have b68 := hwf.1 100 68
  refine VW.iload_n (pc' := 1) d_Model_isView_0 rfl rfl ?_
  refine VW.iconst (pc' := 2) d_Model_isView_1 rfl (by decide) ?_
  refine VW.aload_n (pc' := 3) d_Model_isView_2 rfl rfl ?_
  refine VW.gI (ci := 11) (T := T11) (N := 94) (k := 68) (k' := 68) (pc' := 6) d_Model_isView_3 rfl lk_Model_557 in11 rfl rfl rfl rfl (hM.k rfl) (by first | assumption | (simp [up2] <;> rfl) | rfl) ?_
  refine VW.iconst (pc' := 7) d_Model_isView_6 rfl (by decide) ?_
  refine VW.isub (pc' := 8) d_Model_isView_7 rfl (by omega) ?_
  refine VW.cS (pc' := 11) d_Model_isView_8 rfl ms_Model_isIn lk_Model_235 rfl rfl rfl (Nat.le_refl _) (Nat.le_refl _) (sp_Model_isIn) rfl rfl ?_
  exact VW.iret d_Model_isView_11 rfl (narZ (bI_01 _)) (Nat.zero_le _) (Nat.zero_le _) (by rw [show bI (0 ≤ t ∧ t < I 100 68) = bI (0 ≤ t ∧ t ≤ I 100 68 - 1) from bIc (by omega)]; exact ex_rf)
theorem sp_Model_isRecord {t : Int} (hM : MW K P) (h0 : 0 ≤ I 100 44) : Sp m_Model_isRecord false (rmv 1 22) (ex K P J I (.inl (some (vI (bI (0 ≤ t ∧ t < I 100 44)))))) K P J I [vR (some 100), vI t] := by
  refine Sp.ofV (by decide) (Or.inr rfl) rfl ?_
  refine VW.know (fun hwf hws hwl => ?_)
  have b44 := hwf.1 100 44
  refine VW.iload_n (pc' := 1) d_Model_isRecord_0 rfl rfl ?_
  refine VW.iconst (pc' := 2) d_Model_isRecord_1 rfl (by decide) ?_
  refine VW.aload_n (pc' := 3) d_Model_isRecord_2 rfl rfl ?_
  refine VW.gI (ci := 11) (T := T11) (N := 94) (k := 44) (k' := 44) (pc' := 6) d_Model_isRecord_3 rfl lk_Model_294 in11 rfl rfl rfl rfl (hM.k rfl) (by first | assumption | (simp [up2] <;> rfl) | rfl) ?_
  refine VW.iconst (pc' := 7) d_Model_isRecord_6 rfl (by decide) ?_
  refine VW.isub (pc' := 8) d_Model_isRecord_7 rfl (by omega) ?_
  refine VW.cS (pc' := 11) d_Model_isRecord_8 rfl ms_Model_isIn lk_Model_235 rfl rfl rfl (Nat.le_refl _) (Nat.le_refl _) (sp_Model_isIn) rfl rfl ?_
  exact VW.iret d_Model_isRecord_11 rfl (narZ (bI_01 _)) (Nat.zero_le _) (Nat.zero_le _) (by rw [show bI (0 ≤ t ∧ t < I 100 44) = bI (0 ≤ t ∧ t ≤ I 100 44 - 1) from bIc (by omega)]; exact ex_rf)
theorem sp_Model_isColumn {t c : Int} (hM : MW K P) (h0 : 0 ≤ I 100 0) (h6 : I 100 0 ≤ 6) (hw : ∀ t, 0 ≤ t → t < 6 → 0 ≤ I 201 t) : Sp m_Model_isColumn false (rmv 2 45) (ex K P J I (.inl (some (vI (bI (0 ≤ t ∧ t < I 100 0 ∧ 0 ≤ c ∧ c < I 201 t)))))) K P J I [vR (some 100), vI t, vI c] := by
  refine Sp.ofV (by decide) (Or.inr rfl) rfl ?_
  refine VW.know (fun hwf hws hwl => ?_)
  have b0 := hwf.1 100 0
  have b1 := hwf.1 201 t
  refine VW.aload_n (pc' := 1) d_Model_isColumn_0 rfl rfl ?_
  refine VW.iload_n (pc' := 2) d_Model_isColumn_1 rfl rfl ?_
  refine VW.cV (ci := 11) (T := T11) (N := 94) (pc' := 5) d_Model_isColumn_2 rfl mv_Model_isTable lk_Model_242 rfl (hM.k rfl) rfl rfl rfl (Nat.le_refl _) (Nat.le_refl _) (sp_Model_isTable hM h0) rfl rfl ?_
  refine VW.if_eq (tgt := 28) (pc' := 8) d_Model_isColumn_5 rfl rfl (fun c5 => ?_) (fun c5 => ?_)
  · try have e5 := bIe c5
    refine VW.nrm ?_
    first | (have d := bIe c5; rw [show bI (0 ≤ t ∧ t < I 100 0 ∧ 0 ≤ c ∧ c < I 201 t) = 0 from bI0 (by omega)]) | (have d := bIe c21; rw [show bI (0 ≤ t ∧ t < I 100 0 ∧ 0 ≤ c ∧ c < I 201 t) = 0 from bI0 (by omega)])
    refine VW.iconst (pc' := 29) d_Model_isColumn_28 rfl (by decide) ?_
    exact VW.iret d_Model_isColumn_29 rfl rfl (Nat.zero_le _) (Nat.zero_le _) ex_rf
  · try have e5 := bIn c5
    have d5 := bIn c5
    have d6 := hw t d5.1 (by omega)
    refine VW.iload_n (pc' := 9) d_Model_isColumn_8 rfl rfl ?_
    refine VW.iconst (pc' := 10) d_Model_isColumn_9 rfl (by decide) ?_
    refine VW.aload_n (pc' := 11) d_Model_isColumn_10 rfl rfl ?_
    refine VW.gP (ci := 11) (T := T11) (N := 94) (k := 1) (k' := 1) (pc' := 14) d_Model_isColumn_11 rfl lk_Model_7 in11 rfl rfl rfl rfl (hM.k rfl) (hM.p (r := some 201) 1 rfl rfl) ?_
    refine VW.iload_n (pc' := 15) d_Model_isColumn_14 rfl rfl ?_
    refine VW.ild (pc' := 16) d_Model_isColumn_15 rfl (hM.k rfl) (by omega) (by omega) (by first | assumption | (simp [up2] <;> rfl) | rfl) ?_
    refine VW.iconst (pc' := 17) d_Model_isColumn_16 rfl (by decide) ?_
    refine VW.isub (pc' := 18) d_Model_isColumn_17 rfl (by omega) ?_
    refine VW.cS (pc' := 21) d_Model_isColumn_18 rfl ms_Model_isIn lk_Model_235 rfl rfl rfl (Nat.le_refl _) (Nat.le_refl _) (sp_Model_isIn) rfl rfl ?_
    refine VW.if_eq (tgt := 28) (pc' := 24) d_Model_isColumn_21 rfl rfl (fun c21 => ?_) (fun c21 => ?_)
    · try have e21 := bIe c21
      refine VW.nrm ?_
      first | (have d := bIe c5; rw [show bI (0 ≤ t ∧ t < I 100 0 ∧ 0 ≤ c ∧ c < I 201 t) = 0 from bI0 (by omega)]) | (have d := bIe c21; rw [show bI (0 ≤ t ∧ t < I 100 0 ∧ 0 ≤ c ∧ c < I 201 t) = 0 from bI0 (by omega)])
      refine VW.iconst (pc' := 29) d_Model_isColumn_28 rfl (by decide) ?_
      exact VW.iret d_Model_isColumn_29 rfl rfl (Nat.zero_le _) (Nat.zero_le _) ex_rf
    · try have e21 := bIn c21
      have d21 := bIn c21
      refine VW.iconst (pc' := 25) d_Model_isColumn_24 rfl (by decide) ?_
      refine VW.goto (pc' := 29) d_Model_isColumn_25 rfl ?_
      exact VW.iret d_Model_isColumn_29 rfl rfl (Nat.zero_le _) (Nat.zero_le _) (by rw [show bI (0 ≤ t ∧ t < I 100 0 ∧ 0 ≤ c ∧ c < I 201 t) = 1 from bI1 (by omega)]; exact ex_rf)
theorem sp_Model_cell {s t r c : Int} (hs : 0 ≤ s ∧ s ≤ 5) (ht : 0 ≤ t ∧ t ≤ 6) (hr : -1 ≤ r ∧ r ≤ 64) (hc : 0 ≤ c ∧ c ≤ 4) : Sp m_Model_cell false (rmv 0 0) (ex K P J I (.inl (some (vI (4 * (64 * (6 * s + t) + r) + c))))) K P J I [vI s, vI t, vI r, vI c] := by
  refine Sp.ofV (by decide) (Or.inr rfl) rfl ?_
  refine VW.iconst (pc' := 1) d_Model_cell_0 rfl (by decide) ?_
  refine VW.bipush (pc' := 3) d_Model_cell_1 rfl (by decide) ?_
  refine VW.bipush (pc' := 5) d_Model_cell_3 rfl (by decide) ?_
  refine VW.iload_n (pc' := 6) d_Model_cell_5 rfl rfl ?_
  refine VW.imul (pc' := 7) d_Model_cell_6 rfl (by omega) ?_
  refine VW.iload_n (pc' := 8) d_Model_cell_7 rfl rfl ?_
  refine VW.iadd (pc' := 9) d_Model_cell_8 rfl (by omega) ?_
  refine VW.imul (pc' := 10) d_Model_cell_9 rfl (by omega) ?_
  refine VW.iload_n (pc' := 11) d_Model_cell_10 rfl rfl ?_
  refine VW.iadd (pc' := 12) d_Model_cell_11 rfl (by omega) ?_
  refine VW.imul (pc' := 13) d_Model_cell_12 rfl (by omega) ?_
  refine VW.iload_n (pc' := 14) d_Model_cell_13 rfl rfl ?_
  refine VW.iadd (pc' := 15) d_Model_cell_14 rfl (by omega) ?_
  exact VW.iret d_Model_cell_15 rfl rfl (Nat.zero_le _) (Nat.zero_le _) ex_rf
/-- three-valued: 1, 0, -1 for TRUE, FALSE, UNKNOWN -/
noncomputable def cmp3 (a how b : Int) : Int := if a = -2147483648 ∨ b = -2147483648 then -1 else if how = 0 then bI (a < b) else if how = 1 then bI (a = b) else bI (b < a)
theorem cmp3_n {a how b : Int} (h : a = -2147483648 ∨ b = -2147483648) : cmp3 a how b = -1 := if_pos h
theorem cmp3_l {a how b : Int} (h : ¬ (a = -2147483648 ∨ b = -2147483648)) (e : how = 0) : cmp3 a how b = bI (a < b) := by unfold cmp3; rw [if_neg h, if_pos e]
theorem cmp3_s {a how b : Int} (h : ¬ (a = -2147483648 ∨ b = -2147483648)) (e : how = 1) : cmp3 a how b = bI (a = b) := by unfold cmp3; rw [if_neg h, if_neg (by omega), if_pos e]
theorem cmp3_m {a how b : Int} (h : ¬ (a = -2147483648 ∨ b = -2147483648)) (e : how ≠ 0) (e2 : how ≠ 1) : cmp3 a how b = bI (b < a) := by unfold cmp3; rw [if_neg h, if_neg e, if_neg e2]
theorem sp_Model_compares {a how b : Int} : Sp m_Model_compares false (rmv 0 0) (ex K P J I (.inl (some (vI (cmp3 a how b))))) K P J I [vI a, vI how, vI b] := by
  refine Sp.ofV (by decide) (Or.inr rfl) rfl ?_
  refine VW.iload_n (pc' := 1) d_Model_compares_0 rfl rfl ?_
  refine VW.ldc (pc' := 3) (z := -2147483648) d_Model_compares_1 rfl lk_Model_246 (by decide) (by decide) ?_
  refine VW.icmp_eq (tgt := 12) (pc' := 6) d_Model_compares_3 rfl rfl (fun c3 => ?_) (fun c3 => ?_)
  · refine VW.iconst (pc' := 13) d_Model_compares_12 rfl (by decide) ?_
    exact VW.iret d_Model_compares_13 rfl rfl (Nat.zero_le _) (Nat.zero_le _) (by first | (exfalso; omega) | (rw [cmp3_n (by omega)]; exact ex_rf) | (rw [cmp3_l (by omega) (by omega)]; first | (rw [bI1 (by omega)]; exact ex_rf) | (rw [bI0 (by omega)]; exact ex_rf)) | (rw [cmp3_s (by omega) (by omega)]; first | (rw [bI1 (by omega)]; exact ex_rf) | (rw [bI0 (by omega)]; exact ex_rf)) | (rw [cmp3_m (by omega) (by omega) (by omega)]; first | (rw [bI1 (by omega)]; exact ex_rf) | (rw [bI0 (by omega)]; exact ex_rf)))
  · refine VW.iload_n (pc' := 7) d_Model_compares_6 rfl rfl ?_
    refine VW.ldc (pc' := 9) (z := -2147483648) d_Model_compares_7 rfl lk_Model_246 (by decide) (by decide) ?_
    refine VW.icmp_ne (tgt := 14) (pc' := 12) d_Model_compares_9 rfl rfl (fun c9 => ?_) (fun c9 => ?_)
    · refine VW.iload_n (pc' := 15) d_Model_compares_14 rfl rfl ?_
      refine VW.if_ne (tgt := 31) (pc' := 18) d_Model_compares_15 rfl rfl (fun c15 => ?_) (fun c15 => ?_)
      · try have e15 := bIn c15
        refine VW.iload_n (pc' := 32) d_Model_compares_31 rfl rfl ?_
        refine VW.iconst (pc' := 33) d_Model_compares_32 rfl (by decide) ?_
        refine VW.icmp_ne (tgt := 49) (pc' := 36) d_Model_compares_33 rfl rfl (fun c33 => ?_) (fun c33 => ?_)
        · refine VW.iload_n (pc' := 50) d_Model_compares_49 rfl rfl ?_
          refine VW.iload_n (pc' := 51) d_Model_compares_50 rfl rfl ?_
          refine VW.icmp_le (tgt := 58) (pc' := 54) d_Model_compares_51 rfl rfl (fun c51 => ?_) (fun c51 => ?_)
          · refine VW.iconst (pc' := 59) d_Model_compares_58 rfl (by decide) ?_
            refine VW.istore_n (pc' := 60) d_Model_compares_59 rfl rfl ?_
            refine VW.iload_n (pc' := 61) d_Model_compares_60 rfl rfl ?_
            refine VW.if_eq (tgt := 68) (pc' := 64) d_Model_compares_61 rfl rfl (fun _ => ?_) (fun c61 => absurd c61 (by decide))
            refine VW.iconst (pc' := 69) d_Model_compares_68 rfl (by decide) ?_
            exact VW.iret d_Model_compares_69 rfl rfl (Nat.zero_le _) (Nat.zero_le _) (by first | (exfalso; omega) | (rw [cmp3_n (by omega)]; exact ex_rf) | (rw [cmp3_l (by omega) (by omega)]; first | (rw [bI1 (by omega)]; exact ex_rf) | (rw [bI0 (by omega)]; exact ex_rf)) | (rw [cmp3_s (by omega) (by omega)]; first | (rw [bI1 (by omega)]; exact ex_rf) | (rw [bI0 (by omega)]; exact ex_rf)) | (rw [cmp3_m (by omega) (by omega) (by omega)]; first | (rw [bI1 (by omega)]; exact ex_rf) | (rw [bI0 (by omega)]; exact ex_rf)))
          · refine VW.iconst (pc' := 55) d_Model_compares_54 rfl (by decide) ?_
            refine VW.goto (pc' := 59) d_Model_compares_55 rfl ?_
            refine VW.istore_n (pc' := 60) d_Model_compares_59 rfl rfl ?_
            refine VW.iload_n (pc' := 61) d_Model_compares_60 rfl rfl ?_
            refine VW.if_eq (tgt := 68) (pc' := 64) d_Model_compares_61 rfl rfl (fun c61 => absurd c61 (by decide)) (fun _ => ?_)
            refine VW.iconst (pc' := 65) d_Model_compares_64 rfl (by decide) ?_
            refine VW.goto (pc' := 69) d_Model_compares_65 rfl ?_
            exact VW.iret d_Model_compares_69 rfl rfl (Nat.zero_le _) (Nat.zero_le _) (by first | (exfalso; omega) | (rw [cmp3_n (by omega)]; exact ex_rf) | (rw [cmp3_l (by omega) (by omega)]; first | (rw [bI1 (by omega)]; exact ex_rf) | (rw [bI0 (by omega)]; exact ex_rf)) | (rw [cmp3_s (by omega) (by omega)]; first | (rw [bI1 (by omega)]; exact ex_rf) | (rw [bI0 (by omega)]; exact ex_rf)) | (rw [cmp3_m (by omega) (by omega) (by omega)]; first | (rw [bI1 (by omega)]; exact ex_rf) | (rw [bI0 (by omega)]; exact ex_rf)))
        · refine VW.iload_n (pc' := 37) d_Model_compares_36 rfl rfl ?_
          refine VW.iload_n (pc' := 38) d_Model_compares_37 rfl rfl ?_
          refine VW.icmp_ne (tgt := 45) (pc' := 41) d_Model_compares_38 rfl rfl (fun c38 => ?_) (fun c38 => ?_)
          · refine VW.iconst (pc' := 46) d_Model_compares_45 rfl (by decide) ?_
            refine VW.goto (pc' := 59) d_Model_compares_46 rfl ?_
            refine VW.istore_n (pc' := 60) d_Model_compares_59 rfl rfl ?_
            refine VW.iload_n (pc' := 61) d_Model_compares_60 rfl rfl ?_
            refine VW.if_eq (tgt := 68) (pc' := 64) d_Model_compares_61 rfl rfl (fun _ => ?_) (fun c61 => absurd c61 (by decide))
            refine VW.iconst (pc' := 69) d_Model_compares_68 rfl (by decide) ?_
            exact VW.iret d_Model_compares_69 rfl rfl (Nat.zero_le _) (Nat.zero_le _) (by first | (exfalso; omega) | (rw [cmp3_n (by omega)]; exact ex_rf) | (rw [cmp3_l (by omega) (by omega)]; first | (rw [bI1 (by omega)]; exact ex_rf) | (rw [bI0 (by omega)]; exact ex_rf)) | (rw [cmp3_s (by omega) (by omega)]; first | (rw [bI1 (by omega)]; exact ex_rf) | (rw [bI0 (by omega)]; exact ex_rf)) | (rw [cmp3_m (by omega) (by omega) (by omega)]; first | (rw [bI1 (by omega)]; exact ex_rf) | (rw [bI0 (by omega)]; exact ex_rf)))
          · refine VW.iconst (pc' := 42) d_Model_compares_41 rfl (by decide) ?_
            refine VW.goto (pc' := 59) d_Model_compares_42 rfl ?_
            refine VW.istore_n (pc' := 60) d_Model_compares_59 rfl rfl ?_
            refine VW.iload_n (pc' := 61) d_Model_compares_60 rfl rfl ?_
            refine VW.if_eq (tgt := 68) (pc' := 64) d_Model_compares_61 rfl rfl (fun c61 => absurd c61 (by decide)) (fun _ => ?_)
            refine VW.iconst (pc' := 65) d_Model_compares_64 rfl (by decide) ?_
            refine VW.goto (pc' := 69) d_Model_compares_65 rfl ?_
            exact VW.iret d_Model_compares_69 rfl rfl (Nat.zero_le _) (Nat.zero_le _) (by first | (exfalso; omega) | (rw [cmp3_n (by omega)]; exact ex_rf) | (rw [cmp3_l (by omega) (by omega)]; first | (rw [bI1 (by omega)]; exact ex_rf) | (rw [bI0 (by omega)]; exact ex_rf)) | (rw [cmp3_s (by omega) (by omega)]; first | (rw [bI1 (by omega)]; exact ex_rf) | (rw [bI0 (by omega)]; exact ex_rf)) | (rw [cmp3_m (by omega) (by omega) (by omega)]; first | (rw [bI1 (by omega)]; exact ex_rf) | (rw [bI0 (by omega)]; exact ex_rf)))
      · try have e15 := bIe c15
        refine VW.iload_n (pc' := 19) d_Model_compares_18 rfl rfl ?_
        refine VW.iload_n (pc' := 20) d_Model_compares_19 rfl rfl ?_
        refine VW.icmp_ge (tgt := 27) (pc' := 23) d_Model_compares_20 rfl rfl (fun c20 => ?_) (fun c20 => ?_)
        · refine VW.iconst (pc' := 28) d_Model_compares_27 rfl (by decide) ?_
          refine VW.goto (pc' := 59) d_Model_compares_28 rfl ?_
          refine VW.istore_n (pc' := 60) d_Model_compares_59 rfl rfl ?_
          refine VW.iload_n (pc' := 61) d_Model_compares_60 rfl rfl ?_
          refine VW.if_eq (tgt := 68) (pc' := 64) d_Model_compares_61 rfl rfl (fun _ => ?_) (fun c61 => absurd c61 (by decide))
          refine VW.iconst (pc' := 69) d_Model_compares_68 rfl (by decide) ?_
          exact VW.iret d_Model_compares_69 rfl rfl (Nat.zero_le _) (Nat.zero_le _) (by first | (exfalso; omega) | (rw [cmp3_n (by omega)]; exact ex_rf) | (rw [cmp3_l (by omega) (by omega)]; first | (rw [bI1 (by omega)]; exact ex_rf) | (rw [bI0 (by omega)]; exact ex_rf)) | (rw [cmp3_s (by omega) (by omega)]; first | (rw [bI1 (by omega)]; exact ex_rf) | (rw [bI0 (by omega)]; exact ex_rf)) | (rw [cmp3_m (by omega) (by omega) (by omega)]; first | (rw [bI1 (by omega)]; exact ex_rf) | (rw [bI0 (by omega)]; exact ex_rf)))
        · refine VW.iconst (pc' := 24) d_Model_compares_23 rfl (by decide) ?_
          refine VW.goto (pc' := 59) d_Model_compares_24 rfl ?_
          refine VW.istore_n (pc' := 60) d_Model_compares_59 rfl rfl ?_
          refine VW.iload_n (pc' := 61) d_Model_compares_60 rfl rfl ?_
          refine VW.if_eq (tgt := 68) (pc' := 64) d_Model_compares_61 rfl rfl (fun c61 => absurd c61 (by decide)) (fun _ => ?_)
          refine VW.iconst (pc' := 65) d_Model_compares_64 rfl (by decide) ?_
          refine VW.goto (pc' := 69) d_Model_compares_65 rfl ?_
          exact VW.iret d_Model_compares_69 rfl rfl (Nat.zero_le _) (Nat.zero_le _) (by first | (exfalso; omega) | (rw [cmp3_n (by omega)]; exact ex_rf) | (rw [cmp3_l (by omega) (by omega)]; first | (rw [bI1 (by omega)]; exact ex_rf) | (rw [bI0 (by omega)]; exact ex_rf)) | (rw [cmp3_s (by omega) (by omega)]; first | (rw [bI1 (by omega)]; exact ex_rf) | (rw [bI0 (by omega)]; exact ex_rf)) | (rw [cmp3_m (by omega) (by omega) (by omega)]; first | (rw [bI1 (by omega)]; exact ex_rf) | (rw [bI0 (by omega)]; exact ex_rf)))
    · refine VW.iconst (pc' := 13) d_Model_compares_12 rfl (by decide) ?_
      exact VW.iret d_Model_compares_13 rfl rfl (Nat.zero_le _) (Nat.zero_le _) (by first | (exfalso; omega) | (rw [cmp3_n (by omega)]; exact ex_rf) | (rw [cmp3_l (by omega) (by omega)]; first | (rw [bI1 (by omega)]; exact ex_rf) | (rw [bI0 (by omega)]; exact ex_rf)) | (rw [cmp3_s (by omega) (by omega)]; first | (rw [bI1 (by omega)]; exact ex_rf) | (rw [bI0 (by omega)]; exact ex_rf)) | (rw [cmp3_m (by omega) (by omega) (by omega)]; first | (rw [bI1 (by omega)]; exact ex_rf) | (rw [bI0 (by omega)]; exact ex_rf)))
theorem sp_Model_fails {z : Int} (hM : MW K P) : Sp m_Model_fails false (rmv 0 0) (ex K P J (up2 I 100 93 z) (.inl (some (vI (bI (0 < z)))))) K P J I [vR (some 100), vI z] := by
  refine Sp.ofV (by decide) (Or.inr rfl) rfl ?_
  refine VW.aload_n (pc' := 1) d_Model_fails_0 rfl rfl ?_
  refine VW.iload_n (pc' := 2) d_Model_fails_1 rfl rfl ?_
  refine VW.pI (ci := 11) (T := T11) (N := 94) (k := 93) (k' := 93) (ty := ty11) (pc' := 5) d_Model_fails_2 rfl lk_Model_231 in11 tk11 nm11 rfl rfl rfl rfl rfl rfl (hM.k rfl) ?_
  refine VW.iload_n (pc' := 6) d_Model_fails_5 rfl rfl ?_
  refine VW.if_le (tgt := 13) (pc' := 9) d_Model_fails_6 rfl rfl (fun c6 => ?_) (fun c6 => ?_)
  · refine VW.iconst (pc' := 14) d_Model_fails_13 rfl (by decide) ?_
    exact VW.iret d_Model_fails_14 rfl rfl (Nat.zero_le _) (Nat.zero_le _) (by first | (rw [bI1 (by omega)]; exact ex_rf) | (rw [bI0 (by omega)]; exact ex_rf))
  · refine VW.iconst (pc' := 10) d_Model_fails_9 rfl (by decide) ?_
    refine VW.goto (pc' := 14) d_Model_fails_10 rfl ?_
    exact VW.iret d_Model_fails_14 rfl rfl (Nat.zero_le _) (Nat.zero_le _) (by first | (rw [bI1 (by omega)]; exact ex_rf) | (rw [bI0 (by omega)]; exact ex_rf))
theorem sp_Model_tells {z : Int} (hM : MW K P) : Sp m_Model_tells false (rmv 0 0) (ex K P J (up2 I 100 93 0) (.inl (some (vI z)))) K P J I [vR (some 100), vI z] := by
  refine Sp.ofV (by decide) (Or.inr rfl) rfl ?_
  refine VW.aload_n (pc' := 1) d_Model_tells_0 rfl rfl ?_
  refine VW.iconst (pc' := 2) d_Model_tells_1 rfl (by decide) ?_
  refine VW.pI (ci := 11) (T := T11) (N := 94) (k := 93) (k' := 93) (ty := ty11) (pc' := 5) d_Model_tells_2 rfl lk_Model_231 in11 tk11 nm11 rfl rfl rfl rfl rfl rfl (hM.k rfl) ?_
  refine VW.iload_n (pc' := 6) d_Model_tells_5 rfl rfl ?_
  exact VW.iret d_Model_tells_6 rfl rfl (Nat.zero_le _) (Nat.zero_le _) ex_rf
theorem sp_Model_thrown (hM : MW K P) : Sp m_Model_thrown false (rmv 0 0) (ex K P J I (.inl (some (vI (I 100 93))))) K P J I [vR (some 100)] := by
  refine Sp.ofV (by decide) (Or.inr rfl) rfl ?_
  refine VW.aload_n (pc' := 1) d_Model_thrown_0 rfl rfl ?_
  refine VW.gI (ci := 11) (T := T11) (N := 94) (k := 93) (k' := 93) (pc' := 4) d_Model_thrown_1 rfl lk_Model_231 in11 rfl rfl rfl rfl (hM.k rfl) (by first | assumption | (simp [up2] <;> rfl) | rfl) ?_
  exact VW.iret d_Model_thrown_4 rfl rfl (Nat.zero_le _) (Nat.zero_le _) ex_rf
end
