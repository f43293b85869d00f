section
variable {K : KT} {P : PT} {J I : IT}
theorem rePart_o {e c f d : Nat} {col z : Int} {o : Nat} (h : o ≠ c) : rePart I e c f d col z o = I o := by
  funext j
  unfold rePart
  split
  · exact if_neg (fun q => h q.1)
  · exact if_neg (fun q => h q.1)
/-- what a part is -/
def rpRow (I : IT) (d w : Nat) (z : Int) : List Int := if z = -1 then nul w else rowAt I d (z * (w : Int)) w
theorem rePart_row {e c f d w : Nat} {col z : Int} (hw : I f 2 = w) : rowAt (rePart I e c f d col z) c (I e 1 * I e 2 + col) w = rpRow I d w z := by
  unfold rePart rpRow
  rw [hw]
  split
  · unfold nul
    rw [List.eq_replicate_iff]
    refine ⟨rowAt_len, fun b hb => ?_⟩
    unfold rowAt at hb
    obtain ⟨k, hk, rfl⟩ := List.mem_map.1 hb
    have := List.mem_range.1 hk
    exact if_pos ⟨rfl, by omega, by omega⟩
  · apply rowAt_congr
    intro k k0 k1
    rw [cpyI_in (by omega) (by omega)]
    congr 1; omega
theorem rePart_out {e c f d : Nat} {col z q : Int} (h : q < I e 1 * I e 2 + col ∨ I e 1 * I e 2 + col + I f 2 ≤ q) : rePart I e c f d col z c q = I c q := by
  unfold rePart
  split
  · exact if_neg (by omega)
  · exact cpyI_out (Or.inr (by omega))
theorem ReW.ne {e c n : Nat} (h : ReW K P e c n) : e ≠ c := fun z => by have := h.1.symm.trans (z ▸ h.2.2); cases this
theorem ReW.ne2 {e c n f d m : Nat} (h : ReW K P e c n) (h2 : ReW K P f d m) : e ≠ d := fun z => by have := h.1.symm.trans (z ▸ h2.2.2); cases this
/-- the order of rows as a number -/
def rcp : List Int → List Int → Int
  | x :: xs, y :: ys => if cmpI x y = 0 then rcp xs ys else cmpI x y
  | _, _ => 0
theorem cmpI_lt {a b : Int} : cmpI a b < 0 ↔ a < b := by unfold cmpI; (repeat' split) <;> omega
theorem cmpI_eq {a b : Int} : cmpI a b = 0 ↔ a = b := by unfold cmpI; (repeat' split) <;> omega
theorem cmpI_rg (a b : Int) : -1 ≤ cmpI a b ∧ cmpI a b ≤ 1 := by unfold cmpI; (repeat' split) <;> omega
theorem rcp_rg : ∀ x y : List Int, -1 ≤ rcp x y ∧ rcp x y ≤ 1 := by
  intro x
  induction x with
  | nil =>
    intro y
    have e : rcp [] y = 0 := by cases y <;> rfl
    rw [e]
    exact ⟨by decide, by decide⟩
  | cons a xs ih =>
    intro y
    cases y with
    | nil =>
      rw [show rcp (a :: xs) [] = 0 from rfl]
      exact ⟨by decide, by decide⟩
    | cons b ys =>
      unfold rcp
      split
      · exact ih ys
      · exact cmpI_rg a b
theorem rcp_spec : ∀ x y : List Int, x.length = y.length → (rcp x y = 0 ↔ x = y) ∧ (rcp x y < 0 ↔ rlt x y) := by
  intro x
  induction x with
  | nil => intro y h; cases y with
    | nil => exact ⟨⟨fun _ => rfl, fun _ => rfl⟩, ⟨fun q => absurd q (by decide), fun q => q.elim⟩⟩
    | cons b ys => exact absurd h (by simp)
  | cons a xs ih =>
    intro y h
    cases y with
    | nil => exact absurd h (by simp)
    | cons b ys =>
      obtain ⟨i1, i2⟩ := ih ys (by simpa using h)
      have e1 := cmpI_eq (a := a) (b := b)
      have e2 := cmpI_lt (a := a) (b := b)
      unfold rcp
      by_cases q : cmpI a b = 0
      · rw [if_pos q]
        have ab := e1.mp q
        subst ab
        exact ⟨⟨fun z => by rw [i1.mp z], fun z => i1.mpr (List.cons.inj z).2⟩, ⟨fun z => Or.inr ⟨rfl, i2.mp z⟩, fun z => z.elim (fun z => by omega) (fun z => i2.mpr z.2)⟩⟩
      · rw [if_neg q]
        exact ⟨⟨fun z => absurd z q, fun z => absurd (e1.mpr (List.cons.inj z).1) q⟩, ⟨fun z => Or.inl (e2.mp z), fun z => z.elim e2.mpr (fun z => absurd (e1.mpr z.1) q)⟩⟩
theorem rcp_le {x y : List Int} (h : x.length = y.length) : rcp x y ≤ 0 ↔ rle x y := by
  obtain ⟨h1, h2⟩ := rcp_spec x y h
  constructor
  · intro q z
    by_cases e : rcp x y = 0
    · rw [h1.mp e] at z; exact rlt_irr _ z
    · exact rlt_irr _ (rlt_tr _ _ _ (h2.mp (by omega)) z)
  · intro q
    rcases rlt_tri x y h with z | z | z
    · have := h2.mpr z; omega
    · have := h1.mpr z; omega
    · exact absurd z q
theorem rcp_step {a d w k : Nat} {A B : Int} : rcp (rowAt I a A (1 + w)) (rowAt I d B (1 + w)) = if cmpI (I a A) (I d B) = 0 then rcp (rowAt I a (A + 1) w) (rowAt I d (B + 1) w) else cmpI (I a A) (I d B) := by
  rw [rowAt_cons, rowAt_cons]; rfl
theorem sp_Relation_addPair {e c n : Nat} {f d nf g h nh : Nat} {y z : Int} (hG : ReW K P e c n) (hF : ReW K P f d nf) (hE : ReW K P g h nh) (hm : I e 1 < 512) (hb : 0 ≤ I e 1 * I e 2 ∧ 0 ≤ I f 2 ∧ 0 ≤ I g 2 ∧ I e 1 * I e 2 + I f 2 + I g 2 ≤ n ∧ n ≤ 524288 ∧ 0 ≤ I e 1) (hy : y ≠ -1 → 0 ≤ y * I f 2 ∧ y * I f 2 + I f 2 ≤ nf ∧ nf ≤ 524288) (hz : z ≠ -1 → 0 ≤ z * I g 2 ∧ z * I g 2 + I g 2 ≤ nh ∧ nh ≤ 524288) : Sp m_Relation_addPair false (rmv 3 120) (ex K P J (up2 (rePart (rePart I e c f d 0 y) e c g h (I f 2) z) e 1 (I e 1 + 1)) (.inl none)) K P J I [vR (some e), vR (some f), vI y, vR (some g), vI z] := by
  refine Sp.ofV (by decide) (Or.inr rfl) rfl ?_
  have ee : (rePart I e c f d 0 y) e = I e := rePart_o hG.ne
  have ef : (rePart I e c f d 0 y) f = I f := rePart_o (hF.ne2 hG)
  have eg : (rePart I e c f d 0 y) g = I g := rePart_o (hE.ne2 hG)
  have e2 : rePart (rePart I e c f d 0 y) e c g h (I f 2) z e 1 = I e 1 := (congrFun (rePart_o hG.ne) 1).trans (congrFun ee 1)
  refine VW.aload_n (pc' := 1) d_Relation_addPair_0 rfl rfl ?_
  refine VW.gI (ci := 5) (T := T5) (N := 3) (k := 1) (k' := 1) (pc' := 4) d_Relation_addPair_1 rfl lk_Relation_15 in5 rfl rfl rfl rfl (by first | exact hG.1 | exact hG.2.2 | exact hF.1 | exact hF.2.2 | exact hE.1 | exact hE.2.2 | assumption) (by first | exact hG.2.1 | exact hF.2.1 | exact hE.2.1 | rfl) ?_
  refine VW.sipush (pc' := 7) d_Relation_addPair_4 rfl (by decide) ?_
  refine VW.icmp_ge (tgt := 38) (pc' := 10) d_Relation_addPair_7 rfl rfl (fun c7 => ?_) (fun c7 => ?_)
  case refine_1 => exact absurd c7 (by omega)
  refine VW.aload_n (pc' := 11) d_Relation_addPair_10 rfl rfl ?_
  refine VW.iconst (pc' := 12) d_Relation_addPair_11 rfl (by decide) ?_
  refine VW.aload_n (pc' := 13) d_Relation_addPair_12 rfl rfl ?_
  refine VW.iload_n (pc' := 14) d_Relation_addPair_13 rfl rfl ?_
  refine VW.cV (ci := 5) (T := T5) (N := 3) (pc' := 17) d_Relation_addPair_14 rfl mv_Relation_fillPart lk_Relation_32 rfl (by first | exact hG.1 | exact hG.2.2 | exact hF.1 | exact hF.2.2 | exact hE.1 | exact hE.2.2 | assumption) rfl rfl rfl (Nat.le_refl _) (Nat.le_refl _) (sp_Relation_fillPart hG hF (by omega) hy) rfl rfl ?_
  refine VW.aload_n (pc' := 18) d_Relation_addPair_17 rfl rfl ?_
  refine VW.aload_n (pc' := 19) d_Relation_addPair_18 rfl rfl ?_
  refine VW.gI (ci := 5) (T := T5) (N := 3) (k := 2) (k' := 2) (pc' := 22) d_Relation_addPair_19 rfl lk_Relation_19 in5 rfl rfl rfl rfl (by first | exact hG.1 | exact hG.2.2 | exact hF.1 | exact hF.2.2 | exact hE.1 | exact hE.2.2 | assumption) (congrFun ef 2) ?_
  refine VW.aload_n (pc' := 23) d_Relation_addPair_22 rfl rfl ?_
  refine VW.iload (pc' := 25) d_Relation_addPair_23 rfl rfl ?_
  refine VW.cV (ci := 5) (T := T5) (N := 3) (pc' := 28) d_Relation_addPair_25 rfl mv_Relation_fillPart lk_Relation_32 rfl (by first | exact hG.1 | exact hG.2.2 | exact hF.1 | exact hF.2.2 | exact hE.1 | exact hE.2.2 | assumption) rfl rfl rfl (Nat.le_refl _) (Nat.le_refl _) (sp_Relation_fillPart hG hE (by rw [ee, eg]; omega) (by rw [eg]; exact hz)) rfl rfl ?_
  refine VW.aload_n (pc' := 29) d_Relation_addPair_28 rfl rfl ?_
  refine VW.dup (pc' := 30) d_Relation_addPair_29 rfl rfl ?_
  refine VW.gI (ci := 5) (T := T5) (N := 3) (k := 1) (k' := 1) (pc' := 33) d_Relation_addPair_30 rfl lk_Relation_15 in5 rfl rfl rfl rfl (by first | exact hG.1 | exact hG.2.2 | exact hF.1 | exact hF.2.2 | exact hE.1 | exact hE.2.2 | assumption) (e2) ?_
  refine VW.iconst (pc' := 34) d_Relation_addPair_33 rfl (by decide) ?_
  refine VW.iadd (pc' := 35) d_Relation_addPair_34 rfl (by omega) ?_
  refine VW.pI (ci := 5) (T := T5) (N := 3) (k := 1) (k' := 1) (ty := ty5) (pc' := 38) d_Relation_addPair_35 rfl lk_Relation_15 in5 tk5 nm5 rfl rfl rfl rfl rfl rfl (by first | exact hG.1 | exact hG.2.2 | exact hF.1 | exact hF.2.2 | exact hE.1 | exact hE.2.2 | assumption) ?_
  exact VW.vret d_Relation_addPair_38 rfl (Nat.zero_le _) (Nat.zero_le _) ex_rf
theorem sp_Relation_compareRows {e c n : Nat} {f d nf w : Nat} {a b : Int} (hG : ReW K P e c n) (hF : ReW K P f d nf) (hw : I e 2 = w ∧ w ≤ 10) (ha : 0 ≤ a * (w : Int) ∧ a * (w : Int) + w ≤ n ∧ n ≤ 524288) (hb : 0 ≤ b * (w : Int) ∧ b * (w : Int) + w ≤ nf ∧ nf ≤ 524288) : Sp m_Relation_compareRows false (rmv 1 21) (ex K P J I (.inl (some (vI (rcp (rowAt I c (a * (w : Int)) w) (rowAt I d (b * (w : Int)) w)))))) K P J I [vR (some e), vI a, vR (some f), vI b] := by
  refine Sp.ofV (by decide) (Or.inr rfl) rfl ?_
  have loop : ∀ (l j : Nat), j + l = w → rcp (rowAt I c (a * (w : Int) + j) l) (rowAt I d (b * (w : Int) + j) l) = rcp (rowAt I c (a * (w : Int)) w) (rowAt I d (b * (w : Int)) w) → VW m_Relation_compareRows false (rmv 1 21) (ex K P J I (.inl (some (vI (rcp (rowAt I c (a * (w : Int)) w) (rowAt I d (b * (w : Int)) w)))))) K P J I 0 0 3 [(0, vR (some e)), (1, vI a), (2, vR (some f)), (3, vI b), (4, vI (j : Int))] [] := by
    intro l
    induction l with
    | zero =>
      intro j hj he
      have he' : 0 = rcp (rowAt I c (a * (w : Int)) w) (rowAt I d (b * (w : Int)) w) := he
      refine VW.iload (pc' := 5) d_Relation_compareRows_3 rfl rfl ?_
      refine VW.aload_n (pc' := 6) d_Relation_compareRows_5 rfl rfl ?_
      refine VW.gI (ci := 5) (T := T5) (N := 3) (k := 2) (k' := 2) (pc' := 9) d_Relation_compareRows_6 rfl lk_Relation_19 in5 rfl rfl rfl rfl (by first | exact hG.1 | exact hG.2.2 | exact hF.1 | exact hF.2.2 | exact hE.1 | exact hE.2.2 | assumption) (hw.1) ?_
      refine VW.icmp_ge (tgt := 59) (pc' := 12) d_Relation_compareRows_9 rfl rfl (fun c9 => ?_) (fun c9 => ?_)
      · refine VW.iconst (pc' := 60) d_Relation_compareRows_59 rfl (by decide) ?_
        exact VW.iret d_Relation_compareRows_60 rfl rfl (Nat.zero_le _) (Nat.zero_le _) (by rw [← he']; exact ex_rf)
      · exfalso; omega
    | succ l ih =>
      intro j hj he
      rw [Nat.add_comm l 1, rcp_step (k := 0)] at he
      have nx : cmpI (I c (a * (w : Int) + j)) (I d (b * (w : Int) + j)) = 0 → VW m_Relation_compareRows false (rmv 1 21) (ex K P J I (.inl (some (vI (rcp (rowAt I c (a * (w : Int)) w) (rowAt I d (b * (w : Int)) w)))))) K P J I 0 0 3 [(0, vR (some e)), (1, vI a), (2, vR (some f)), (3, vI b), (4, vI ((j : Int) + 1))] [] := fun z => by
        have h := ih (j + 1) (by omega)
        rw [show ((j + 1 : Nat) : Int) = (j : Int) + 1 by omega] at h
        refine h ?_
        rw [if_pos z] at he
        rw [← he, Int.add_assoc, Int.add_assoc]
      have no : ¬ cmpI (I c (a * (w : Int) + j)) (I d (b * (w : Int) + j)) = 0 → cmpI (I c (a * (w : Int) + j)) (I d (b * (w : Int) + j)) = rcp (rowAt I c (a * (w : Int)) w) (rowAt I d (b * (w : Int)) w) := fun z => by rw [if_neg z] at he; exact he
      clear ih he
      refine VW.iload (pc' := 5) d_Relation_compareRows_3 rfl rfl ?_
      refine VW.aload_n (pc' := 6) d_Relation_compareRows_5 rfl rfl ?_
      refine VW.gI (ci := 5) (T := T5) (N := 3) (k := 2) (k' := 2) (pc' := 9) d_Relation_compareRows_6 rfl lk_Relation_19 in5 rfl rfl rfl rfl (by first | exact hG.1 | exact hG.2.2 | exact hF.1 | exact hF.2.2 | exact hE.1 | exact hE.2.2 | assumption) (hw.1) ?_
      refine VW.icmp_ge (tgt := 59) (pc' := 12) d_Relation_compareRows_9 rfl rfl (fun c9 => ?_) (fun c9 => ?_)
      · exfalso; omega
      · refine VW.aload_n (pc' := 13) d_Relation_compareRows_12 rfl rfl ?_
        refine VW.gP (ci := 5) (T := T5) (N := 3) (k := 0) (k' := 0) (pc' := 16) d_Relation_compareRows_13 rfl lk_Relation_9 in5 rfl rfl rfl rfl (by first | exact hG.1 | exact hG.2.2 | exact hF.1 | exact hF.2.2 | exact hE.1 | exact hE.2.2 | assumption) (by first | exact hG.2.1 | exact hF.2.1 | exact hE.2.1 | rfl) ?_
        refine VW.iload_n (pc' := 17) d_Relation_compareRows_16 rfl rfl ?_
        refine VW.aload_n (pc' := 18) d_Relation_compareRows_17 rfl rfl ?_
        refine VW.gI (ci := 5) (T := T5) (N := 3) (k := 2) (k' := 2) (pc' := 21) d_Relation_compareRows_18 rfl lk_Relation_19 in5 rfl rfl rfl rfl (by first | exact hG.1 | exact hG.2.2 | exact hF.1 | exact hF.2.2 | exact hE.1 | exact hE.2.2 | assumption) (hw.1) ?_
        refine VW.imul (pc' := 22) d_Relation_compareRows_21 rfl (by omega) ?_
        refine VW.iload (pc' := 24) d_Relation_compareRows_22 rfl rfl ?_
        refine VW.iadd (pc' := 25) d_Relation_compareRows_24 rfl (by omega) ?_
        refine VW.ild (pc' := 26) d_Relation_compareRows_25 rfl (by first | exact hG.1 | exact hG.2.2 | exact hF.1 | exact hF.2.2 | exact hE.1 | exact hE.2.2 | assumption) (by omega) (by omega) (by first | exact hG.2.1 | exact hF.2.1 | exact hE.2.1 | rfl) ?_
        refine VW.aload_n (pc' := 27) d_Relation_compareRows_26 rfl rfl ?_
        refine VW.gP (ci := 5) (T := T5) (N := 3) (k := 0) (k' := 0) (pc' := 30) d_Relation_compareRows_27 rfl lk_Relation_9 in5 rfl rfl rfl rfl (by first | exact hG.1 | exact hG.2.2 | exact hF.1 | exact hF.2.2 | exact hE.1 | exact hE.2.2 | assumption) (by first | exact hG.2.1 | exact hF.2.1 | exact hE.2.1 | rfl) ?_
        refine VW.iload_n (pc' := 31) d_Relation_compareRows_30 rfl rfl ?_
        refine VW.aload_n (pc' := 32) d_Relation_compareRows_31 rfl rfl ?_
        refine VW.gI (ci := 5) (T := T5) (N := 3) (k := 2) (k' := 2) (pc' := 35) d_Relation_compareRows_32 rfl lk_Relation_19 in5 rfl rfl rfl rfl (by first | exact hG.1 | exact hG.2.2 | exact hF.1 | exact hF.2.2 | exact hE.1 | exact hE.2.2 | assumption) (hw.1) ?_
        refine VW.imul (pc' := 36) d_Relation_compareRows_35 rfl (by omega) ?_
        refine VW.iload (pc' := 38) d_Relation_compareRows_36 rfl rfl ?_
        refine VW.iadd (pc' := 39) d_Relation_compareRows_38 rfl (by omega) ?_
        refine VW.ild (pc' := 40) d_Relation_compareRows_39 rfl (by first | exact hG.1 | exact hG.2.2 | exact hF.1 | exact hF.2.2 | exact hE.1 | exact hE.2.2 | assumption) (by omega) (by omega) (by first | exact hG.2.1 | exact hF.2.1 | exact hE.2.1 | rfl) ?_
        refine VW.cS (pc' := 43) d_Relation_compareRows_40 rfl ms_java_lang_Integer_compare lk_Relation_55 rfl rfl rfl (Nat.le_refl _) (Nat.le_refl _) (sp_compare) rfl rfl ?_
        refine VW.istore (pc' := 45) d_Relation_compareRows_43 rfl rfl ?_
        refine VW.iload (pc' := 47) d_Relation_compareRows_45 rfl rfl ?_
        refine VW.if_eq (tgt := 53) (pc' := 50) d_Relation_compareRows_47 rfl rfl (fun c47 => ?_) (fun c47 => ?_)
        · try have e47 := bIe c47
          refine VW.iinc (pc' := 56) d_Relation_compareRows_53 rfl rfl rfl (by omega) ?_
          refine VW.goto (pc' := 3) d_Relation_compareRows_56 rfl ?_
          refine VW.pick [0, 1, 2, 3, 4] ?_
          exact nx c47
        · try have e47 := bIn c47
          refine VW.iload (pc' := 52) d_Relation_compareRows_50 rfl rfl ?_
          exact VW.iret d_Relation_compareRows_52 rfl rfl (Nat.zero_le _) (Nat.zero_le _) (ex_v (no c47).symm)
  have l := loop w 0 (by omega) (by simp)
  clear loop
  refine VW.iconst (pc' := 1) d_Relation_compareRows_0 rfl (by decide) ?_
  refine VW.istore (pc' := 3) d_Relation_compareRows_1 rfl rfl ?_
  refine VW.nrm ?_
  exact l
end
