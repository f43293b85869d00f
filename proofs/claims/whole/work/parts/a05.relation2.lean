section
variable {K : KT} {P : PT} {J I : IT}
/-- a result holds the rows L, of width w -/
def RelR (I : IT) (e c w : Nat) (L : List (List Int)) : Prop := I e 2 = w ∧ I e 1 = L.length ∧ seg I c 0 w L.length = L
theorem RelR.of {S : IT} {e c w : Nat} {L : List (List Int)} (h : RelR I e c w L) (h1 : S e = I e) (h2 : S c = I c) : RelR S e c w L := by
  obtain ⟨a1, a2, a3⟩ := h
  refine ⟨by rw [h1]; exact a1, by rw [h1]; exact a2, ?_⟩
  rw [← a3]
  conv => lhs; rw [a3]
  exact seg_congr (fun q _ _ => by rw [h2])
theorem RelR.row {e c w k : Nat} {L : List (List Int)} (h : RelR I e c w L) (hk : k < L.length) : L[k]? = some (rowAt I c ((w : Int) * (k : Int)) w) := by
  have e1 := seg_get (I := I) (a := c) (b := 0) (w := w) hk
  rw [h.2.2, Int.zero_add] at e1
  exact e1
theorem RelR.wid {e c w : Nat} {L : List (List Int)} (h : RelR I e c w L) : ∀ r ∈ L, r.length = w := by
  rw [← h.2.2]
  exact seg_w
/-- a row more -/
theorem RelR.add {S : IT} {e c w : Nat} {L : List (List Int)} {r : List Int} (h : RelR I e c w L) (h2 : S e 2 = w) (h1 : S e 1 = L.length + 1) (h3 : ∀ q : Int, 0 ≤ q → q < (w : Int) * (L.length : Int) → S c q = I c q) (h4 : rowAt S c ((w : Int) * (L.length : Int)) w = r) : RelR S e c w (L ++ [r]) := by
  refine ⟨h2, by rw [h1, List.length_append]; simp, ?_⟩
  rw [List.length_append, List.length_singleton, seg_succ, Int.zero_add, h4]
  congr 1
  conv => rhs; rw [← h.2.2]
  exact seg_congr (fun q q0 q1 => by rw [Int.zero_add]; exact h3 q q0 q1)
theorem relMul {w m : Nat} (hw : w ≤ 10) (hm : m < 512) : 0 ≤ (m : Int) * (w : Int) ∧ (m : Int) * (w : Int) + w ≤ 5120 := by
  have h : (m * w : Nat) ≤ 511 * 10 := Nat.mul_le_mul (by omega) hw
  have e : (m : Int) * (w : Int) = ((m * w : Nat) : Int) := by simp
  rw [e]
  omega
theorem sp_Relation_cell {e c n : Nat} {a b : Int} (hG : ReW K P e c n) (h : 0 ≤ a * I e 2 ∧ 0 ≤ b ∧ a * I e 2 + b < n ∧ n ≤ 524288) : Sp m_Relation_cell false (rmv 0 0) (ex K P J I (.inl (some (vI (I c (a * I e 2 + b)))))) K P J I [vR (some e), vI a, vI b] := by
  refine Sp.ofV (by decide) (Or.inr rfl) rfl ?_
  refine VW.aload_n (pc' := 1) d_Relation_cell_0 rfl rfl ?_
  refine VW.gP (ci := 5) (T := T5) (N := 3) (k := 0) (k' := 0) (pc' := 4) d_Relation_cell_1 rfl lk_Relation_9 in5 rfl rfl rfl rfl (by first | exact hG.1 | exact hG.2.2 | exact hF.1 | exact hF.2.2 | exact hE.1 | exact hE.2.2 | assumption) (by first | exact hG.2.1 | exact hF.2.1 | exact hE.2.1 | rfl) ?_
  refine VW.iload_n (pc' := 5) d_Relation_cell_4 rfl rfl ?_
  refine VW.aload_n (pc' := 6) d_Relation_cell_5 rfl rfl ?_
  refine VW.gI (ci := 5) (T := T5) (N := 3) (k := 2) (k' := 2) (pc' := 9) d_Relation_cell_6 rfl lk_Relation_19 in5 rfl rfl rfl rfl (by first | exact hG.1 | exact hG.2.2 | exact hF.1 | exact hF.2.2 | exact hE.1 | exact hE.2.2 | assumption) (by first | exact hG.2.1 | exact hF.2.1 | exact hE.2.1 | rfl) ?_
  refine VW.imul (pc' := 10) d_Relation_cell_9 rfl (by omega) ?_
  refine VW.iload_n (pc' := 11) d_Relation_cell_10 rfl rfl ?_
  refine VW.iadd (pc' := 12) d_Relation_cell_11 rfl (by omega) ?_
  refine VW.ild (pc' := 13) d_Relation_cell_12 rfl (by first | exact hG.1 | exact hG.2.2 | exact hF.1 | exact hF.2.2 | exact hE.1 | exact hE.2.2 | assumption) (by omega) (by omega) (by first | exact hG.2.1 | exact hF.2.1 | exact hE.2.1 | rfl) ?_
  exact VW.iret d_Relation_cell_13 rfl rfl (Nat.zero_le _) (Nat.zero_le _) ex_rf
theorem sp_Relation_add {e c n : Nat} {f nf : Nat} {z : Int} (hG : ReW K P e c n) (hm : I e 1 < 512) (h : 0 ≤ I e 1 * I e 2 ∧ 0 ≤ I e 2 ∧ I e 1 * I e 2 + I e 2 ≤ n ∧ n ≤ 524288 ∧ 0 ≤ I e 1) (hf : K f = some (100, nf)) (hz : 0 ≤ z ∧ z + I e 2 ≤ nf) : Sp m_Relation_add false (rmv 1 40) (ex K P J (up2 (cpyI I f z c (I e 1 * I e 2) (I e 2)) e 1 (I e 1 + 1)) (.inl none)) K P J I [vR (some e), vR (some f), vI z] := by
  refine Sp.ofV (by decide) (Or.inr rfl) rfl ?_
  have ne : e ≠ c := fun z => by have := hG.1.symm.trans (z ▸ hG.2.2); cases this
  refine VW.aload_n (pc' := 1) d_Relation_add_0 rfl rfl ?_
  refine VW.gI (ci := 5) (T := T5) (N := 3) (k := 1) (k' := 1) (pc' := 4) d_Relation_add_1 rfl lk_Relation_15 in5 rfl rfl rfl rfl (by first | exact hG.1 | exact hG.2.2 | exact hF.1 | exact hF.2.2 | exact hE.1 | exact hE.2.2 | assumption) (by first | exact hG.2.1 | exact hF.2.1 | exact hE.2.1 | rfl) ?_
  refine VW.sipush (pc' := 7) d_Relation_add_4 rfl (by decide) ?_
  refine VW.icmp_ge (tgt := 42) (pc' := 10) d_Relation_add_7 rfl rfl (fun c7 => ?_) (fun c7 => ?_)
  case refine_1 => exact absurd c7 (by omega)
  refine VW.aload_n (pc' := 11) d_Relation_add_10 rfl rfl ?_
  refine VW.iload_n (pc' := 12) d_Relation_add_11 rfl rfl ?_
  refine VW.aload_n (pc' := 13) d_Relation_add_12 rfl rfl ?_
  refine VW.gP (ci := 5) (T := T5) (N := 3) (k := 0) (k' := 0) (pc' := 16) d_Relation_add_13 rfl lk_Relation_9 in5 rfl rfl rfl rfl (by first | exact hG.1 | exact hG.2.2 | exact hF.1 | exact hF.2.2 | exact hE.1 | exact hE.2.2 | assumption) (by first | exact hG.2.1 | exact hF.2.1 | exact hE.2.1 | rfl) ?_
  refine VW.aload_n (pc' := 17) d_Relation_add_16 rfl rfl ?_
  refine VW.gI (ci := 5) (T := T5) (N := 3) (k := 1) (k' := 1) (pc' := 20) d_Relation_add_17 rfl lk_Relation_15 in5 rfl rfl rfl rfl (by first | exact hG.1 | exact hG.2.2 | exact hF.1 | exact hF.2.2 | exact hE.1 | exact hE.2.2 | assumption) (by first | exact hG.2.1 | exact hF.2.1 | exact hE.2.1 | rfl) ?_
  refine VW.aload_n (pc' := 21) d_Relation_add_20 rfl rfl ?_
  refine VW.gI (ci := 5) (T := T5) (N := 3) (k := 2) (k' := 2) (pc' := 24) d_Relation_add_21 rfl lk_Relation_19 in5 rfl rfl rfl rfl (by first | exact hG.1 | exact hG.2.2 | exact hF.1 | exact hF.2.2 | exact hE.1 | exact hE.2.2 | assumption) (by first | exact hG.2.1 | exact hF.2.1 | exact hE.2.1 | rfl) ?_
  refine VW.imul (pc' := 25) d_Relation_add_24 rfl (by omega) ?_
  refine VW.aload_n (pc' := 26) d_Relation_add_25 rfl rfl ?_
  refine VW.gI (ci := 5) (T := T5) (N := 3) (k := 2) (k' := 2) (pc' := 29) d_Relation_add_26 rfl lk_Relation_19 in5 rfl rfl rfl rfl (by first | exact hG.1 | exact hG.2.2 | exact hF.1 | exact hF.2.2 | exact hE.1 | exact hE.2.2 | assumption) (by first | exact hG.2.1 | exact hF.2.1 | exact hE.2.1 | rfl) ?_
  refine VW.copyi (pc' := 32) d_Relation_add_29 rfl lk_Relation_22 hf hG.2.2 (by omega) (by omega) (by omega) (by omega) (by omega) rfl rfl ?_
  refine VW.aload_n (pc' := 33) d_Relation_add_32 rfl rfl ?_
  refine VW.dup (pc' := 34) d_Relation_add_33 rfl rfl ?_
  refine VW.gI (ci := 5) (T := T5) (N := 3) (k := 1) (k' := 1) (pc' := 37) d_Relation_add_34 rfl lk_Relation_15 in5 rfl rfl rfl rfl (by first | exact hG.1 | exact hG.2.2 | exact hF.1 | exact hF.2.2 | exact hE.1 | exact hE.2.2 | assumption) (if_neg (fun q => ne q.1)) ?_
  refine VW.iconst (pc' := 38) d_Relation_add_37 rfl (by decide) ?_
  refine VW.iadd (pc' := 39) d_Relation_add_38 rfl (by omega) ?_
  refine VW.pI (ci := 5) (T := T5) (N := 3) (k := 1) (k' := 1) (ty := ty5) (pc' := 42) d_Relation_add_39 rfl lk_Relation_15 in5 tk5 nm5 rfl rfl rfl rfl rfl rfl (by first | exact hG.1 | exact hG.2.2 | exact hF.1 | exact hF.2.2 | exact hE.1 | exact hE.2.2 | assumption) ?_
  exact VW.vret d_Relation_add_42 rfl (Nat.zero_le _) (Nat.zero_le _) ex_rf
theorem sp_Relation_addRow {e c n : Nat} {f d nf : Nat} {z : Int} (hG : ReW K P e c n) (hF : ReW K P f d nf) (hm : I e 1 < 512) (h : 0 ≤ I e 1 * I e 2 ∧ 0 ≤ I e 2 ∧ I e 1 * I e 2 + I e 2 ≤ n ∧ n ≤ 524288 ∧ 0 ≤ I e 1) (hz : 0 ≤ z * I f 2 ∧ z * I f 2 + I e 2 ≤ nf ∧ nf ≤ 524288) : Sp m_Relation_addRow false (rmv 2 80) (ex K P J (up2 (cpyI I d (z * I f 2) c (I e 1 * I e 2) (I e 2)) e 1 (I e 1 + 1)) (.inl none)) K P J I [vR (some e), vR (some f), vI z] := by
  refine Sp.ofV (by decide) (Or.inr rfl) rfl ?_
  refine VW.aload_n (pc' := 1) d_Relation_addRow_0 rfl rfl ?_
  refine VW.aload_n (pc' := 2) d_Relation_addRow_1 rfl rfl ?_
  refine VW.gP (ci := 5) (T := T5) (N := 3) (k := 0) (k' := 0) (pc' := 5) d_Relation_addRow_2 rfl lk_Relation_9 in5 rfl rfl rfl rfl (by first | exact hG.1 | exact hG.2.2 | exact hF.1 | exact hF.2.2 | exact hE.1 | exact hE.2.2 | assumption) (by first | exact hG.2.1 | exact hF.2.1 | exact hE.2.1 | rfl) ?_
  refine VW.iload_n (pc' := 6) d_Relation_addRow_5 rfl rfl ?_
  refine VW.aload_n (pc' := 7) d_Relation_addRow_6 rfl rfl ?_
  refine VW.gI (ci := 5) (T := T5) (N := 3) (k := 2) (k' := 2) (pc' := 10) d_Relation_addRow_7 rfl lk_Relation_19 in5 rfl rfl rfl rfl (by first | exact hG.1 | exact hG.2.2 | exact hF.1 | exact hF.2.2 | exact hE.1 | exact hE.2.2 | assumption) (by first | exact hG.2.1 | exact hF.2.1 | exact hE.2.1 | rfl) ?_
  refine VW.imul (pc' := 11) d_Relation_addRow_10 rfl (by omega) ?_
  refine VW.cV (ci := 5) (T := T5) (N := 3) (pc' := 14) d_Relation_addRow_11 rfl mv_Relation_add lk_Relation_28 rfl (by first | exact hG.1 | exact hG.2.2 | exact hF.1 | exact hF.2.2 | exact hE.1 | exact hE.2.2 | assumption) rfl rfl rfl (Nat.le_refl _) (Nat.le_refl _) (sp_Relation_add hG hm h hF.2.2 (by omega)) rfl rfl ?_
  exact VW.vret d_Relation_addRow_14 rfl (Nat.zero_le _) (Nat.zero_le _) ex_rf
/-- a part of a row: a row of f, or NULLs -/
noncomputable def rePart (I : IT) (e c f d : Nat) (col z : Int) : IT := if z = -1 then filI I c (I e 1 * I e 2 + col) (I e 1 * I e 2 + col + I f 2) (-2147483648) else cpyI I d (z * I f 2) c (I e 1 * I e 2 + col) (I f 2)
theorem sp_Relation_fillPart {e c n : Nat} {f d nf : Nat} {col z : Int} (hG : ReW K P e c n) (hF : ReW K P f d nf) (h : 0 ≤ I e 1 * I e 2 ∧ 0 ≤ col ∧ 0 ≤ I f 2 ∧ I e 1 * I e 2 + col + I f 2 ≤ n ∧ n ≤ 524288) (hz : z ≠ -1 → 0 ≤ z * I f 2 ∧ z * I f 2 + I f 2 ≤ nf ∧ nf ≤ 524288) : Sp m_Relation_fillPart false (rmv 2 80) (ex K P J (rePart I e c f d col z) (.inl none)) K P J I [vR (some e), vI col, vR (some f), vI z] := by
  refine Sp.ofV (by decide) (Or.inr rfl) rfl ?_
  have y : z = -1 → rePart I e c f d col z = filI I c (I e 1 * I e 2 + col) (I e 1 * I e 2 + col + I f 2) (-2147483648) := fun h => if_pos h
  have n0 : z ≠ -1 → rePart I e c f d col z = cpyI I d (z * I f 2) c (I e 1 * I e 2 + col) (I f 2) := fun h => if_neg h
  refine VW.aload_n (pc' := 1) d_Relation_fillPart_0 rfl rfl ?_
  refine VW.gI (ci := 5) (T := T5) (N := 3) (k := 1) (k' := 1) (pc' := 4) d_Relation_fillPart_1 rfl lk_Relation_15 in5 rfl rfl rfl rfl (by first | exact hG.1 | exact hG.2.2 | exact hF.1 | exact hF.2.2 | exact hE.1 | exact hE.2.2 | assumption) (by first | exact hG.2.1 | exact hF.2.1 | exact hE.2.1 | rfl) ?_
  refine VW.aload_n (pc' := 5) d_Relation_fillPart_4 rfl rfl ?_
  refine VW.gI (ci := 5) (T := T5) (N := 3) (k := 2) (k' := 2) (pc' := 8) d_Relation_fillPart_5 rfl lk_Relation_19 in5 rfl rfl rfl rfl (by first | exact hG.1 | exact hG.2.2 | exact hF.1 | exact hF.2.2 | exact hE.1 | exact hE.2.2 | assumption) (by first | exact hG.2.1 | exact hF.2.1 | exact hE.2.1 | rfl) ?_
  refine VW.imul (pc' := 9) d_Relation_fillPart_8 rfl (by omega) ?_
  refine VW.iload_n (pc' := 10) d_Relation_fillPart_9 rfl rfl ?_
  refine VW.iadd (pc' := 11) d_Relation_fillPart_10 rfl (by omega) ?_
  refine VW.istore (pc' := 13) d_Relation_fillPart_11 rfl rfl ?_
  refine VW.iload_n (pc' := 14) d_Relation_fillPart_13 rfl rfl ?_
  refine VW.iconst (pc' := 15) d_Relation_fillPart_14 rfl (by decide) ?_
  refine VW.icmp_ne (tgt := 39) (pc' := 18) d_Relation_fillPart_15 rfl rfl (fun c15 => ?_) (fun c15 => ?_)
  · refine VW.aload_n (pc' := 40) d_Relation_fillPart_39 rfl rfl ?_
    refine VW.gP (ci := 5) (T := T5) (N := 3) (k := 0) (k' := 0) (pc' := 43) d_Relation_fillPart_40 rfl lk_Relation_9 in5 rfl rfl rfl rfl (by first | exact hG.1 | exact hG.2.2 | exact hF.1 | exact hF.2.2 | exact hE.1 | exact hE.2.2 | assumption) (by first | exact hG.2.1 | exact hF.2.1 | exact hE.2.1 | rfl) ?_
    refine VW.iload_n (pc' := 44) d_Relation_fillPart_43 rfl rfl ?_
    refine VW.aload_n (pc' := 45) d_Relation_fillPart_44 rfl rfl ?_
    refine VW.gI (ci := 5) (T := T5) (N := 3) (k := 2) (k' := 2) (pc' := 48) d_Relation_fillPart_45 rfl lk_Relation_19 in5 rfl rfl rfl rfl (by first | exact hG.1 | exact hG.2.2 | exact hF.1 | exact hF.2.2 | exact hE.1 | exact hE.2.2 | assumption) (by first | exact hG.2.1 | exact hF.2.1 | exact hE.2.1 | rfl) ?_
    refine VW.imul (pc' := 49) d_Relation_fillPart_48 rfl (by have := hz c15; omega) ?_
    refine VW.aload_n (pc' := 50) d_Relation_fillPart_49 rfl rfl ?_
    refine VW.gP (ci := 5) (T := T5) (N := 3) (k := 0) (k' := 0) (pc' := 53) d_Relation_fillPart_50 rfl lk_Relation_9 in5 rfl rfl rfl rfl (by first | exact hG.1 | exact hG.2.2 | exact hF.1 | exact hF.2.2 | exact hE.1 | exact hE.2.2 | assumption) (by first | exact hG.2.1 | exact hF.2.1 | exact hE.2.1 | rfl) ?_
    refine VW.iload (pc' := 55) d_Relation_fillPart_53 rfl rfl ?_
    refine VW.aload_n (pc' := 56) d_Relation_fillPart_55 rfl rfl ?_
    refine VW.gI (ci := 5) (T := T5) (N := 3) (k := 2) (k' := 2) (pc' := 59) d_Relation_fillPart_56 rfl lk_Relation_19 in5 rfl rfl rfl rfl (by first | exact hG.1 | exact hG.2.2 | exact hF.1 | exact hF.2.2 | exact hE.1 | exact hE.2.2 | assumption) (by first | exact hG.2.1 | exact hF.2.1 | exact hE.2.1 | rfl) ?_
    refine VW.copyi (pc' := 62) d_Relation_fillPart_59 rfl lk_Relation_22 hF.2.2 hG.2.2 (by have := hz c15; omega) (by omega) (by omega) (by have := hz c15; omega) (by omega) rfl rfl ?_
    exact VW.vret d_Relation_fillPart_62 rfl (Nat.zero_le _) (Nat.zero_le _) (by first | (rw [y (by omega)]; exact ex_rf) | (rw [n0 (by omega)]; exact ex_rf))
  · refine VW.aload_n (pc' := 19) d_Relation_fillPart_18 rfl rfl ?_
    refine VW.gP (ci := 5) (T := T5) (N := 3) (k := 0) (k' := 0) (pc' := 22) d_Relation_fillPart_19 rfl lk_Relation_9 in5 rfl rfl rfl rfl (by first | exact hG.1 | exact hG.2.2 | exact hF.1 | exact hF.2.2 | exact hE.1 | exact hE.2.2 | assumption) (by first | exact hG.2.1 | exact hF.2.1 | exact hE.2.1 | rfl) ?_
    refine VW.iload (pc' := 24) d_Relation_fillPart_22 rfl rfl ?_
    refine VW.iload (pc' := 26) d_Relation_fillPart_24 rfl rfl ?_
    refine VW.aload_n (pc' := 27) d_Relation_fillPart_26 rfl rfl ?_
    refine VW.gI (ci := 5) (T := T5) (N := 3) (k := 2) (k' := 2) (pc' := 30) d_Relation_fillPart_27 rfl lk_Relation_19 in5 rfl rfl rfl rfl (by first | exact hG.1 | exact hG.2.2 | exact hF.1 | exact hF.2.2 | exact hE.1 | exact hE.2.2 | assumption) (by first | exact hG.2.1 | exact hF.2.1 | exact hE.2.1 | rfl) ?_
    refine VW.iadd (pc' := 31) d_Relation_fillPart_30 rfl (by omega) ?_
    refine VW.ldc (pc' := 33) (z := -2147483648) d_Relation_fillPart_31 rfl lk_Relation_36 (by decide) (by decide) ?_
    refine VW.cS (pc' := 36) d_Relation_fillPart_33 rfl ms_java_util_Arrays_fill_IIIIV lk_Relation_37 rfl rfl rfl (Nat.le_refl _) (Nat.le_refl _) (sp_fill4 hG.2.2 (by omega) (by omega) (by omega) (by omega)) rfl rfl ?_
    refine VW.goto (pc' := 62) d_Relation_fillPart_36 rfl ?_
    exact VW.vret d_Relation_fillPart_62 rfl (Nat.zero_le _) (Nat.zero_le _) (by first | (rw [y (by omega)]; exact ex_rf) | (rw [n0 (by omega)]; exact ex_rf))
end
