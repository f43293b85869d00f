section
variable {K : KT} {P : PT} {J I : IT}
/-- the engine's transactions: n of them -/
def EnL (K : KT) (P : PT) (I : IT) (n lq : Nat) (lv mv : Nat → Nat) : Prop := LsV K P I 1448 12100 lq n 8 ∧ n ≤ 60 ∧ ∀ j, j < n → P (ldn 12100 lq) (j : Int) = some (tX j) ∧ TxV K P j (lv j) (mv j)
theorem EnL.al {n lq : Nat} {lv mv : Nat → Nat} (h : EnL K P I n lq lv mv) : AlW K P 1448 (ldn 12100 lq) (lcp lq) := h.1.1
theorem EnL.sz {n lq : Nat} {lv mv : Nat → Nat} (h : EnL K P I n lq lv mv) : I 1448 2 = n := h.1.2.2.2.1.1
theorem EnL.cp {n lq : Nat} {lv mv : Nat → Nat} (h : EnL K P I n lq lv mv) : n ≤ lcp lq := h.1.2.2.2.1.2.1
theorem EnL.el {n lq j : Nat} {lv mv : Nat → Nat} (h : EnL K P I n lq lv mv) (hj : j < n) : P (ldn 12100 lq) (j : Int) = some (tX j) := (h.2.2 j hj).1
theorem EnL.tx {n lq j : Nat} {lv mv : Nat → Nat} (h : EnL K P I n lq lv mv) (hj : j < n) : TxV K P j (lv j) (mv j) := (h.2.2 j hj).2
theorem sp_Engine_hasTransaction {n lq : Nat} {lv mv : Nat → Nat} (hC : ClW K P) (hL : EnL K P I n lq lv mv) {a : Int} : Sp m_Engine_hasTransaction false (rmv 1 20) (ex K P J I (.inl (some (vI (bI (0 ≤ a ∧ a < n)))))) K P J I [vR (some 1064), vI a] := by
  refine Sp.ofV (by decide) (Or.inr rfl) rfl ?_
  have hz := hL.sz
  refine VW.iload_n (pc' := 1) d_Engine_hasTransaction_0 rfl rfl ?_
  refine VW.if_lt (tgt := 19) (pc' := 4) d_Engine_hasTransaction_1 rfl rfl (fun c1 => ?_) (fun c1 => ?_)
  · refine VW.iconst (pc' := 20) d_Engine_hasTransaction_19 rfl (by decide) ?_
    exact VW.iret d_Engine_hasTransaction_20 rfl rfl (Nat.zero_le _) (Nat.zero_le _) (by first | exact ex_v (bI1 (by omega)) | exact ex_v (bI0 (by omega)))
  · refine VW.iload_n (pc' := 5) d_Engine_hasTransaction_4 rfl rfl ?_
    refine VW.aload_n (pc' := 6) d_Engine_hasTransaction_5 rfl rfl ?_
    refine VW.gP (ci := 0) (T := T0) (N := 8) (k := 2) (k' := 2) (pc' := 9) d_Engine_hasTransaction_6 rfl lk_Engine_21 in0 rfl rfl rfl rfl (by first | exact hC.k 9 rfl | exact hC.k 10 rfl | exact hC.k 11 rfl | exact hC.k 12 rfl | exact hC.k 53 rfl) (by first | exact hC.p 15 rfl | exact hC.p 17 rfl | exact hC.p 19 rfl | exact hC.p 20 rfl | exact hC.p 21 rfl | rfl) ?_
    refine VW.cV (ci := 12) (T := T12) (N := 3) (pc' := 12) d_Engine_hasTransaction_9 rfl mv_java_util_ArrayList_size lk_Engine_57 rfl (by first | exact hC.k 9 rfl | exact hC.k 10 rfl | exact hC.k 11 rfl | exact hC.k 12 rfl | exact hC.k 53 rfl) rfl rfl rfl (Nat.le_refl _) (Nat.le_refl _) (sp_java_util_ArrayList_size (hC.k 53 rfl)) rfl rfl ?_
    rw [hz]
    refine VW.icmp_ge (tgt := 19) (pc' := 15) d_Engine_hasTransaction_12 rfl rfl (fun c12 => ?_) (fun c12 => ?_)
    · refine VW.iconst (pc' := 20) d_Engine_hasTransaction_19 rfl (by decide) ?_
      exact VW.iret d_Engine_hasTransaction_20 rfl rfl (Nat.zero_le _) (Nat.zero_le _) (by first | exact ex_v (bI1 (by omega)) | exact ex_v (bI0 (by omega)))
    · refine VW.iconst (pc' := 16) d_Engine_hasTransaction_15 rfl (by decide) ?_
      refine VW.goto (pc' := 20) d_Engine_hasTransaction_16 rfl ?_
      exact VW.iret d_Engine_hasTransaction_20 rfl rfl (Nat.zero_le _) (Nat.zero_le _) (by first | exact ex_v (bI1 (by omega)) | exact ex_v (bI0 (by omega)))
noncomputable def opN (I : IT) (n : Nat) : Int := cntI (fun j => I (tX j.toNat) 4 = 0 ∨ I (tX j.toNat) 4 = 1) n
theorem sp_Engine_countOpen {n lq : Nat} {lv mv : Nat → Nat} (hC : ClW K P) (hL : EnL K P I n lq lv mv) : Sp m_Engine_countOpen false (rmv 3 101) (ex K P J I (.inl (some (vI (opN I n))))) K P J I [vR (some 1064)] := by
  refine Sp.ofV (by decide) (Or.inr rfl) rfl ?_
  have hz := hL.sz
  have hcp := hL.cp
  have h60 := hL.2.1
  have loop : ∀ (w j : Nat), j + w = n → VW m_Engine_countOpen false (rmv 3 101) (ex K P J I (.inl (some (vI (opN I n))))) K P J I 0 0 4 [(0, vR (some 1064)), (1, vI (opN I j)), (2, vI (j : Int))] [] := by
    intro w
    induction w with
    | zero =>
      intro j hj
      have ej : j = n := by omega
      subst ej
      refine VW.iload_n (pc' := 5) d_Engine_countOpen_4 rfl rfl ?_
      refine VW.aload_n (pc' := 6) d_Engine_countOpen_5 rfl rfl ?_
      refine VW.gP (ci := 0) (T := T0) (N := 8) (k := 2) (k' := 2) (pc' := 9) d_Engine_countOpen_6 rfl lk_Engine_21 in0 rfl rfl rfl rfl (by first | exact hC.k 9 rfl | exact hC.k 10 rfl | exact hC.k 11 rfl | exact hC.k 12 rfl | exact hC.k 53 rfl) (by first | exact hC.p 15 rfl | exact hC.p 17 rfl | exact hC.p 19 rfl | exact hC.p 20 rfl | exact hC.p 21 rfl | rfl) ?_
      refine VW.cV (ci := 12) (T := T12) (N := 3) (pc' := 12) d_Engine_countOpen_9 rfl mv_java_util_ArrayList_size lk_Engine_57 rfl (by first | exact hC.k 9 rfl | exact hC.k 10 rfl | exact hC.k 11 rfl | exact hC.k 12 rfl | exact hC.k 53 rfl) rfl rfl rfl (Nat.le_refl _) (Nat.le_refl _) (sp_java_util_ArrayList_size (hC.k 53 rfl)) rfl rfl ?_
      rw [hz]
      refine VW.icmp_ge (tgt := 41) (pc' := 15) d_Engine_countOpen_12 rfl rfl (fun c12 => ?_) (fun c12 => ?_)
      case refine_2 => exact absurd c12 (by omega)
      refine VW.iload_n (pc' := 42) d_Engine_countOpen_41 rfl rfl ?_
      exact VW.iret d_Engine_countOpen_42 rfl rfl (Nat.zero_le _) (Nat.zero_le _) ex_rf
    | succ w ih =>
      intro j hj
      have cr := cntI_rg (fun j => I (tX j.toNat) 4 = 0 ∨ I (tX j.toNat) 4 = 1) j
      have hj' : j < n := by omega
      have he := hL.el hj'
      have hT := (hL.tx hj').1
      have n9 := ih (j + 1) (by omega)
      have jt : ((j : Int)).toNat = j := Int.toNat_natCast j
      have y1 : (I (tX j) 4 = 0 ∨ I (tX j) 4 = 1) → opN I (j + 1) = opN I j + 1 := fun h => (cntI_yes (by show I (tX ((j : Int)).toNat) 4 = 0 ∨ _; rw [jt]; exact h)).symm
      have y0 : ¬ (I (tX j) 4 = 0 ∨ I (tX j) 4 = 1) → opN I (j + 1) = opN I j := fun h => ((Int.add_zero _).symm.trans (cntI_no (g := fun j => I (tX j.toNat) 4 = 0 ∨ I (tX j.toNat) 4 = 1) (n := j) (by show ¬ (I (tX ((j : Int)).toNat) 4 = 0 ∨ _); rw [jt]; exact h))).symm
      have oc : 0 ≤ opN I j ∧ opN I j ≤ j := cr
      rw [show ((j + 1 : Nat) : Int) = (j : Int) + 1 by omega] at n9
      clear ih
      refine VW.iload_n (pc' := 5) d_Engine_countOpen_4 rfl rfl ?_
      refine VW.aload_n (pc' := 6) d_Engine_countOpen_5 rfl rfl ?_
      refine VW.gP (ci := 0) (T := T0) (N := 8) (k := 2) (k' := 2) (pc' := 9) d_Engine_countOpen_6 rfl lk_Engine_21 in0 rfl rfl rfl rfl (by first | exact hC.k 9 rfl | exact hC.k 10 rfl | exact hC.k 11 rfl | exact hC.k 12 rfl | exact hC.k 53 rfl | exact hT.1) (by first | exact hC.p 15 rfl | exact hC.p 17 rfl | exact hC.p 19 rfl | exact hC.p 20 rfl | exact hC.p 21 rfl | rfl) ?_
      refine VW.cV (ci := 12) (T := T12) (N := 3) (pc' := 12) d_Engine_countOpen_9 rfl mv_java_util_ArrayList_size lk_Engine_57 rfl (by first | exact hC.k 9 rfl | exact hC.k 10 rfl | exact hC.k 11 rfl | exact hC.k 12 rfl | exact hC.k 53 rfl | exact hT.1) rfl rfl rfl (Nat.le_refl _) (Nat.le_refl _) (sp_java_util_ArrayList_size (hC.k 53 rfl)) rfl rfl ?_
      rw [hz]
      refine VW.icmp_ge (tgt := 41) (pc' := 15) d_Engine_countOpen_12 rfl rfl (fun c12 => ?_) (fun c12 => ?_)
      case refine_1 => exact absurd c12 (by omega)
      refine VW.aload_n (pc' := 16) d_Engine_countOpen_15 rfl rfl ?_
      refine VW.gP (ci := 0) (T := T0) (N := 8) (k := 2) (k' := 2) (pc' := 19) d_Engine_countOpen_16 rfl lk_Engine_21 in0 rfl rfl rfl rfl (by first | exact hC.k 9 rfl | exact hC.k 10 rfl | exact hC.k 11 rfl | exact hC.k 12 rfl | exact hC.k 53 rfl | exact hT.1) (by first | exact hC.p 15 rfl | exact hC.p 17 rfl | exact hC.p 19 rfl | exact hC.p 20 rfl | exact hC.p 21 rfl | rfl) ?_
      refine VW.iload_n (pc' := 20) d_Engine_countOpen_19 rfl rfl ?_
      refine VW.cV (ci := 12) (T := T12) (N := 3) (pc' := 23) d_Engine_countOpen_20 rfl mv_java_util_ArrayList_get lk_Engine_61 rfl (by first | exact hC.k 9 rfl | exact hC.k 10 rfl | exact hC.k 11 rfl | exact hC.k 12 rfl | exact hC.k 53 rfl | exact hT.1) rfl rfl rfl (Nat.le_refl _) (Nat.le_refl _) (sp_java_util_ArrayList_get (i := (j : Int)) hL.al (by rw [hz]; omega) (by rw [hz]; omega)) rfl rfl ?_
      rw [he]
      refine VW.cast (ci := 8) (T := T8) (NN := 19) (pc' := 26) d_Engine_countOpen_23 rfl lk_Engine_65 rfl (by first | exact hC.k 9 rfl | exact hC.k 10 rfl | exact hC.k 11 rfl | exact hC.k 12 rfl | exact hC.k 53 rfl | exact hT.1) ?_
      refine VW.cV (ci := 8) (T := T8) (N := 19) (pc' := 29) d_Engine_countOpen_26 rfl mv_Transaction_isOpen lk_Engine_67 rfl (by first | exact hC.k 9 rfl | exact hC.k 10 rfl | exact hC.k 11 rfl | exact hC.k 12 rfl | exact hC.k 53 rfl | exact hT.1) rfl rfl rfl (Nat.le_refl _) (Nat.le_refl _) (sp_Transaction_isOpen hT) rfl rfl ?_
      refine VW.if_eq (tgt := 35) (pc' := 32) d_Engine_countOpen_29 rfl rfl (fun c29 => ?_) (fun c29 => ?_)
      · try have e29 := bIe c29
        refine VW.iinc (pc' := 38) d_Engine_countOpen_35 rfl rfl rfl (by omega) ?_
        refine VW.goto (pc' := 4) d_Engine_countOpen_38 rfl ?_
        refine VW.pick [0, 1, 2] ?_
        first | (rw [y1 (bIn c29)] at n9; exact n9) | (rw [y0 (bIe c29)] at n9; exact n9)
      · try have e29 := bIn c29
        refine VW.iinc (pc' := 35) d_Engine_countOpen_32 rfl rfl rfl (by omega) ?_
        refine VW.iinc (pc' := 38) d_Engine_countOpen_35 rfl rfl rfl (by omega) ?_
        refine VW.goto (pc' := 4) d_Engine_countOpen_38 rfl ?_
        refine VW.pick [0, 1, 2] ?_
        first | (rw [y1 (bIn c29)] at n9; exact n9) | (rw [y0 (bIe c29)] at n9; exact n9)
  have l9 := loop n 0 (by omega)
  clear loop
  refine VW.iconst (pc' := 1) d_Engine_countOpen_0 rfl (by decide) ?_
  refine VW.istore_n (pc' := 2) d_Engine_countOpen_1 rfl rfl ?_
  refine VW.iconst (pc' := 3) d_Engine_countOpen_2 rfl (by decide) ?_
  refine VW.istore_n (pc' := 4) d_Engine_countOpen_3 rfl rfl ?_
  refine VW.pick [0, 1, 2] ?_
  exact l9
theorem sp_Engine_isBusy {n lq : Nat} {lv mv : Nat → Nat} (hC : ClW K P) (hL : EnL K P I n lq lv mv) : Sp m_Engine_isBusy false (rmv 4 123) (ex K P J I (.inl (some (vI (bI (0 < opN I n)))))) K P J I [vR (some 1064)] := by
  refine Sp.ofV (by decide) (Or.inr rfl) rfl ?_
  refine VW.aload_n (pc' := 1) d_Engine_isBusy_0 rfl rfl ?_
  refine VW.cV (ci := 0) (T := T0) (N := 8) (pc' := 4) d_Engine_isBusy_1 rfl mv_Engine_countOpen lk_Engine_71 rfl (by first | exact hC.k 9 rfl | exact hC.k 10 rfl | exact hC.k 11 rfl | exact hC.k 12 rfl | exact hC.k 53 rfl) rfl rfl rfl (Nat.le_refl _) (Nat.le_refl _) (sp_Engine_countOpen hC hL) rfl rfl ?_
  refine VW.if_le (tgt := 11) (pc' := 7) d_Engine_isBusy_4 rfl rfl (fun c4 => ?_) (fun c4 => ?_)
  · refine VW.iconst (pc' := 12) d_Engine_isBusy_11 rfl (by decide) ?_
    exact VW.iret d_Engine_isBusy_12 rfl rfl (Nat.zero_le _) (Nat.zero_le _) (by first | exact ex_v (bI1 (by omega)) | exact ex_v (bI0 (by omega)))
  · refine VW.iconst (pc' := 8) d_Engine_isBusy_7 rfl (by decide) ?_
    refine VW.goto (pc' := 12) d_Engine_isBusy_8 rfl ?_
    exact VW.iret d_Engine_isBusy_12 rfl rfl (Nat.zero_le _) (Nat.zero_le _) (by first | exact ex_v (bI1 (by omega)) | exact ex_v (bI0 (by omega)))
/-- an end of a transaction: what it wrote belongs to nobody -/
def fiI (I : IT) (x f : Nat) (ph : Int) : Nat → IT
  | 0 => up2 (up2 I x 4 ph) x 6 (-1)
  | j + 1 => up2 (fiI I x f ph j) 1069 (I f (j : Int)) (-1)
theorem fiI_o {x f o : Nat} {ph : Int} (h1 : o ≠ x) (h2 : o ≠ 1069) : ∀ j, fiI I x f ph j o = I o := by
  intro j
  induction j with
  | zero => exact funext (fun z => (up2_o _ _ _ _ h1).trans (up2_o _ _ _ _ h1))
  | succ j ih => exact (funext (fun z => up2_o _ _ _ _ h2)).trans ih
theorem fiI_x {x f : Nat} {ph : Int} (h2 : x ≠ 1069) (z : Int) : ∀ j, fiI I x f ph j x z = if z = 6 then -1 else if z = 4 then ph else I x z := by
  intro j
  induction j with
  | zero =>
    show up2 (up2 I x 4 ph) x 6 (-1) x z = _
    unfold up2
    simp only [true_and]
  | succ j ih => exact (up2_o _ _ _ _ h2).trans ih
theorem fiI_w {x f : Nat} {ph : Int} (h2 : x ≠ 1069) (z : Int) : ∀ j : Nat, (∃ q : Nat, q < j ∧ I f (q : Int) = z) → fiI I x f ph j 1069 z = -1 := by
  intro j
  induction j with
  | zero => intro ⟨q, h, _⟩; omega
  | succ j ih =>
    intro ⟨q, h, e⟩
    show up2 (fiI I x f ph j) 1069 (I f (j : Int)) (-1) 1069 z = _
    by_cases c : z = I f (j : Int)
    · rw [c, up2_eq]
    · rw [up2_k _ _ _ _ c]
      refine ih ⟨q, ?_, e⟩
      by_cases qj : q = j
      · exact absurd (by rw [← e, qj]) c
      · omega
theorem fiI_n {x f : Nat} {ph : Int} (h2 : x ≠ 1069) (z : Int) : ∀ j : Nat, (∀ q : Nat, q < j → I f (q : Int) ≠ z) → fiI I x f ph j 1069 z = I 1069 z := by
  intro j
  induction j with
  | zero => intro _; exact (up2_o _ _ _ _ h2.symm).trans (up2_o _ _ _ _ h2.symm)
  | succ j ih =>
    intro h
    exact (up2_k _ _ _ _ (h j (by omega)).symm).trans (ih (fun q hq => h q (by omega)))
theorem sp_Engine_finish {i l m : Nat} {ph : Int} (hC : ClW K P) (hV : TxV K P i l m) (hN : TxN I i l m) : Sp m_Engine_finish false (rmv 0 0) (ex K P J (fiI I (tX i) (tX i + 80 + m) ph (I (tX i) 17).toNat) (.inl none)) K P J I [vR (some 1064), vR (some (tX i)), vI ph] := by
  refine Sp.ofV (by decide) (Or.inr rfl) rfl ?_
  have hx := hV.1.1
  have hf := hV.1.2.2.2.2.2
  have b := hN.2.1
  have x0 : 2000 ≤ tX i := by unfold tX; omega
  have e2 : (((8 * 2 ^ m : Nat)) : Int) = 8 * 2 ^ m := by simp
  have loop : ∀ (w j : Nat), (j : Int) + w = I (tX i) 17 → VW m_Engine_finish false (rmv 0 0) (ex K P J (fiI I (tX i) (tX i + 80 + m) ph (I (tX i) 17).toNat) (.inl none)) K P J (fiI I (tX i) (tX i + 80 + m) ph j) 0 0 12 [(0, vR (some 1064)), (1, vR (some (tX i))), (2, vI ph), (3, vI (j : Int))] [] := by
    intro w
    induction w with
    | zero =>
      intro j hj
      have h17 : fiI I (tX i) (tX i + 80 + m) ph j (tX i) 17 = I (tX i) 17 := (fiI_x (by omega) 17 j).trans (by rw [if_neg (by decide), if_neg (by decide)])
      have ej : (I (tX i) 17).toNat = j := by omega
      rw [ej]
      refine VW.iload_n (pc' := 13) d_Engine_finish_12 rfl rfl ?_
      refine VW.aload_n (pc' := 14) d_Engine_finish_13 rfl rfl ?_
      refine VW.gI (ci := 8) (T := T8) (N := 19) (k := 17) (k' := 17) (pc' := 17) d_Engine_finish_14 rfl lk_Engine_179 in8 rfl rfl rfl rfl (by first | exact hC.k 9 rfl | exact hC.k 10 rfl | exact hC.k 11 rfl | exact hC.k 12 rfl | exact hC.k 53 rfl | exact hx | exact hf.2) (by first | exact hC.p 15 rfl | exact hC.p 17 rfl | exact hC.p 19 rfl | exact hC.p 20 rfl | exact hC.p 21 rfl | exact h17 | exact hf.1 | rfl) ?_
      refine VW.icmp_ge (tgt := 38) (pc' := 20) d_Engine_finish_17 rfl rfl (fun c17 => ?_) (fun c17 => ?_)
      case refine_2 => exact absurd c17 (by omega)
      exact VW.vret d_Engine_finish_38 rfl (Nat.zero_le _) (Nat.zero_le _) ex_rf
    | succ w ih =>
      intro j hj
      have h17 : fiI I (tX i) (tX i + 80 + m) ph j (tX i) 17 = I (tX i) 17 := (fiI_x (by omega) 17 j).trans (by rw [if_neg (by decide), if_neg (by decide)])
      have hv : fiI I (tX i) (tX i + 80 + m) ph j (tX i + 80 + m) (j : Int) = I (tX i + 80 + m) (j : Int) := congrFun (fiI_o (by omega) (by omega) j) _
      have n9 := ih (j + 1) (by omega)
      have hb := hN.2.2.2.2 (j : Int) (by omega) (by omega)
      rw [show ((j + 1 : Nat) : Int) = (j : Int) + 1 by omega] at n9
      clear ih
      refine VW.iload_n (pc' := 13) d_Engine_finish_12 rfl rfl ?_
      refine VW.aload_n (pc' := 14) d_Engine_finish_13 rfl rfl ?_
      refine VW.gI (ci := 8) (T := T8) (N := 19) (k := 17) (k' := 17) (pc' := 17) d_Engine_finish_14 rfl lk_Engine_179 in8 rfl rfl rfl rfl (by first | exact hC.k 9 rfl | exact hC.k 10 rfl | exact hC.k 11 rfl | exact hC.k 12 rfl | exact hC.k 53 rfl | exact hx | exact hf.2) (by first | exact hC.p 15 rfl | exact hC.p 17 rfl | exact hC.p 19 rfl | exact hC.p 20 rfl | exact hC.p 21 rfl | exact h17 | exact hf.1 | exact hv | rfl) ?_
      refine VW.icmp_ge (tgt := 38) (pc' := 20) d_Engine_finish_17 rfl rfl (fun c17 => ?_) (fun c17 => ?_)
      case refine_1 => exact absurd c17 (by omega)
      refine VW.aload_n (pc' := 21) d_Engine_finish_20 rfl rfl ?_
      refine VW.gP (ci := 0) (T := T0) (N := 8) (k := 4) (k' := 4) (pc' := 24) d_Engine_finish_21 rfl lk_Engine_32 in0 rfl rfl rfl rfl (by first | exact hC.k 9 rfl | exact hC.k 10 rfl | exact hC.k 11 rfl | exact hC.k 12 rfl | exact hC.k 53 rfl | exact hx | exact hf.2) (by first | exact hC.p 15 rfl | exact hC.p 17 rfl | exact hC.p 19 rfl | exact hC.p 20 rfl | exact hC.p 21 rfl | exact h17 | exact hf.1 | exact hv | rfl) ?_
      refine VW.aload_n (pc' := 25) d_Engine_finish_24 rfl rfl ?_
      refine VW.gP (ci := 8) (T := T8) (N := 19) (k := 18) (k' := 18) (pc' := 28) d_Engine_finish_25 rfl lk_Engine_182 in8 rfl rfl rfl rfl (by first | exact hC.k 9 rfl | exact hC.k 10 rfl | exact hC.k 11 rfl | exact hC.k 12 rfl | exact hC.k 53 rfl | exact hx | exact hf.2) (by first | exact hC.p 15 rfl | exact hC.p 17 rfl | exact hC.p 19 rfl | exact hC.p 20 rfl | exact hC.p 21 rfl | exact h17 | exact hf.1 | exact hv | rfl) ?_
      refine VW.iload_n (pc' := 29) d_Engine_finish_28 rfl rfl ?_
      refine VW.ild (pc' := 30) d_Engine_finish_29 rfl (by first | exact hC.k 9 rfl | exact hC.k 10 rfl | exact hC.k 11 rfl | exact hC.k 12 rfl | exact hC.k 53 rfl | exact hx | exact hf.2) (by omega) (by omega) (by first | exact hC.p 15 rfl | exact hC.p 17 rfl | exact hC.p 19 rfl | exact hC.p 20 rfl | exact hC.p 21 rfl | exact h17 | exact hf.1 | exact hv | rfl) ?_
      refine VW.iconst (pc' := 31) d_Engine_finish_30 rfl (by decide) ?_
      refine VW.iast (pc' := 32) d_Engine_finish_31 rfl (by first | exact hC.k 9 rfl | exact hC.k 10 rfl | exact hC.k 11 rfl | exact hC.k 12 rfl | exact hC.k 53 rfl | exact hx | exact hf.2) (by omega) (by omega) ?_
      refine VW.iinc (pc' := 35) d_Engine_finish_32 rfl rfl rfl (by omega) ?_
      refine VW.goto (pc' := 12) d_Engine_finish_35 rfl ?_
      refine VW.pick [0, 1, 2, 3] ?_
      exact n9
  have l9 := loop (I (tX i) 17).toNat 0 (by omega)
  clear loop
  refine VW.aload_n (pc' := 1) d_Engine_finish_0 rfl rfl ?_
  refine VW.iload_n (pc' := 2) d_Engine_finish_1 rfl rfl ?_
  refine VW.pI (ci := 8) (T := T8) (N := 19) (k := 4) (k' := 4) (ty := ty8) (pc' := 5) d_Engine_finish_2 rfl lk_Engine_118 in8 tk8 nm8 rfl rfl rfl rfl rfl rfl (by first | exact hC.k 9 rfl | exact hC.k 10 rfl | exact hC.k 11 rfl | exact hC.k 12 rfl | exact hC.k 53 rfl | exact hx) ?_
  refine VW.aload_n (pc' := 6) d_Engine_finish_5 rfl rfl ?_
  refine VW.iconst (pc' := 7) d_Engine_finish_6 rfl (by decide) ?_
  refine VW.pI (ci := 8) (T := T8) (N := 19) (k := 6) (k' := 6) (ty := ty8) (pc' := 10) d_Engine_finish_7 rfl lk_Engine_121 in8 tk8 nm8 rfl rfl rfl rfl rfl rfl (by first | exact hC.k 9 rfl | exact hC.k 10 rfl | exact hC.k 11 rfl | exact hC.k 12 rfl | exact hC.k 53 rfl | exact hx) ?_
  refine VW.iconst (pc' := 11) d_Engine_finish_10 rfl (by decide) ?_
  refine VW.istore_n (pc' := 12) d_Engine_finish_11 rfl rfl ?_
  refine VW.pick [0, 1, 2, 3] ?_
  exact l9
end
