section
variable {K : KT} {P : PT} {J I : IT}
/-- the first row with a key -/
noncomputable def gfI (I : IT) (co : Nat) (key : Int) (m : Nat) : Int := fs (fun j => I co (j * 2) = key) 0 m
def grAdd (I : IT) (eo co : Nat) (key how : Int) : IT := up2 (up2 (up2 I co (I eo 1 * I eo 2) key) co (I eo 1 * I eo 2 + 1) (gInit how)) eo 1 (I eo 1 + 1)
theorem grAdd_o {eo co q : Nat} {key how : Int} (h1 : q ≠ eo) (h2 : q ≠ co) : grAdd I eo co key how q = I q := by
  funext z
  exact (up2_o _ _ _ _ h1).trans ((up2_o _ _ _ _ h2).trans (up2_o _ _ _ _ h2))
theorem grAdd_R {eo co : Nat} {key how : Int} {L : List (List Int)} (hne : eo ≠ co) (h : RelR I eo co 2 L) : RelR (grAdd I eo co key how) eo co 2 (L ++ [[key, gInit how]]) := by
  obtain ⟨h1, h2, h3⟩ := h
  have em : I eo 1 * I eo 2 = ((2 : Nat) : Int) * (L.length : Int) := by rw [h1, h2, Int.mul_comm]
  have e1 : ∀ q, grAdd I eo co key how co q = if q = I eo 1 * I eo 2 + 1 then gInit how else if q = I eo 1 * I eo 2 then key else I co q := fun q => by
    unfold grAdd
    rw [up2_o _ _ _ _ hne.symm]
    unfold up2
    by_cases c1 : q = I eo 1 * I eo 2 + 1
    · rw [if_pos ⟨rfl, c1⟩, if_pos c1]
    · rw [if_neg (fun z => c1 z.2), if_neg c1]
      by_cases c2 : q = I eo 1 * I eo 2
      · rw [if_pos ⟨rfl, c2⟩, if_pos c2]
      · rw [if_neg (fun z => c2 z.2), if_neg c2]
  refine RelR.add ⟨h1, h2, h3⟩ ?_ ?_ (fun q q0 q1 => ?_) ?_
  · exact (up2_k _ _ _ _ (by decide)).trans ((up2_o _ _ _ _ hne).trans ((up2_o _ _ _ _ hne).trans h1))
  · exact (up2_eq _ _ _ _).trans (by rw [h2])
  · rw [e1, if_neg (by rw [em]; omega), if_neg (by rw [em]; omega)]
  · rw [rowAt_2, e1, e1, em, if_neg (by omega), if_pos rfl, if_pos rfl]
theorem gr_set {eo co j : Nat} {z : Int} {L : List (List Int)} {key : Int} (hne : eo ≠ co) (h : RelR I eo co 2 L) (hj : j < L.length) (hk : I co ((j : Int) * 2) = key) : RelR (up2 I co ((j : Int) * 2 + 1) z) eo co 2 (L.set j [key, z]) := by
  obtain ⟨h1, h2, h3⟩ := h
  refine ⟨(up2_o _ _ _ _ hne).trans h1, (up2_o _ _ _ _ hne).trans (by rw [List.length_set]; exact h2), ?_⟩
  rw [List.length_set]
  conv => rhs; rw [← h3]
  apply seg_set
  · rw [rowAt_2, show (0 : Int) + ((2 : Nat) : Int) * (j : Int) = (j : Int) * 2 by omega, up2_eq, up2_k _ _ _ _ (by omega), hk]
  · intro q hq
    exact up2_k _ _ _ _ (by omega)
theorem gr_key {eo co j : Nat} {L : List (List Int)} (h : RelR I eo co 2 L) (hj : j < L.length) : ∃ r, L[j]? = some r ∧ nth r 0 = I co ((j : Int) * 2) ∧ nth r 1 = I co ((j : Int) * 2 + 1) := by
  refine ⟨_, h.row hj, ?_, ?_⟩
  · rw [nth_rowAt (by omega) (by omega)]
    congr 1; omega
  · rw [nth_rowAt (by omega) (by omega)]
    congr 1; omega
theorem gUpd_set {how key v : Int} {L : List (List Int)} {j : Nat} {r : List Int} (hj : L[j]? = some r) (hlt : ∀ i r', i < j → L[i]? = some r' → nth r' 0 ≠ key) (hk : nth r 0 = key) : L.set j [key, gath how (nth r 1) v] = gUpd how key v L := by
  have hl := (List.getElem?_eq_some_iff.mp hj).1
  have e0 : L.drop j = r :: L.drop (j + 1) := by rw [List.drop_eq_getElem_cons hl, (List.getElem?_eq_some_iff.mp hj).2]
  have e1 : L.take j ++ r :: L.drop (j + 1) = L := by rw [← e0, List.take_append_drop]
  have e2 := gUpd_at (how := how) (v := v) (A := L.take j) (B := L.drop (j + 1)) (r := r) (key := key) (fun r' hr => by
    obtain ⟨i, hi⟩ := List.getElem?_of_mem hr
    rw [List.getElem?_take] at hi
    split at hi
    · exact hlt i r' (by assumption) hi
    · cases hi) hk
  rw [e1] at e2
  rw [e2, List.set_eq_take_append_cons_drop, if_pos hl]
theorem sp_Evaluator_addGroup {eo co : Nat} {key how : Int} (hO : ReW K P eo co 5120) (hm : 0 ≤ I eo 1 * I eo 2 ∧ I eo 1 * I eo 2 + 2 ≤ 5120 ∧ 0 ≤ I eo 1 ∧ I eo 1 ≤ 5120) : Sp m_Evaluator_addGroup false (rmv 0 0) (ex K P J (grAdd I eo co key how) (.inl none)) K P J I [vR (some eo), vI key, vI how] := by
  refine Sp.ofV (by decide) (Or.inr rfl) rfl ?_
  have ne := hO.ne
  have gy : how = 0 → (0 : Int) = gInit how := fun z => (if_pos z).symm
  have gn : ¬ how = 0 → (-2147483648 : Int) = gInit how := fun z => (if_neg z).symm
  refine VW.aload_n (pc' := 1) d_Evaluator_addGroup_0 rfl rfl ?_
  refine VW.gI (ci := 5) (T := T5) (N := 3) (k := 1) (k' := 1) (pc' := 4) d_Evaluator_addGroup_1 rfl lk_Evaluator_61 in5 rfl rfl rfl rfl (by first | exact hO.1 | exact hO.2.2 | exact hE.1 | exact hE.2.2 | assumption) (by first | exact hO.2.1 | exact hE.2.1 | exact tm | rfl) ?_
  refine VW.aload_n (pc' := 5) d_Evaluator_addGroup_4 rfl rfl ?_
  refine VW.gI (ci := 5) (T := T5) (N := 3) (k := 2) (k' := 2) (pc' := 8) d_Evaluator_addGroup_5 rfl lk_Evaluator_54 in5 rfl rfl rfl rfl (by first | exact hO.1 | exact hO.2.2 | exact hE.1 | exact hE.2.2 | assumption) (by first | exact hO.2.1 | exact hE.2.1 | exact tm | rfl) ?_
  refine VW.imul (pc' := 9) d_Evaluator_addGroup_8 rfl (by omega) ?_
  refine VW.istore_n (pc' := 10) d_Evaluator_addGroup_9 rfl rfl ?_
  refine VW.aload_n (pc' := 11) d_Evaluator_addGroup_10 rfl rfl ?_
  refine VW.gP (ci := 5) (T := T5) (N := 3) (k := 0) (k' := 0) (pc' := 14) d_Evaluator_addGroup_11 rfl lk_Evaluator_142 in5 rfl rfl rfl rfl (by first | exact hO.1 | exact hO.2.2 | exact hE.1 | exact hE.2.2 | assumption) (by first | exact hO.2.1 | exact hE.2.1 | exact tm | rfl) ?_
  refine VW.iload_n (pc' := 15) d_Evaluator_addGroup_14 rfl rfl ?_
  refine VW.iload_n (pc' := 16) d_Evaluator_addGroup_15 rfl rfl ?_
  refine VW.iast (pc' := 17) d_Evaluator_addGroup_16 rfl (by first | exact hO.1 | exact hO.2.2 | exact hE.1 | exact hE.2.2 | assumption) (by omega) (by omega) ?_
  refine VW.aload_n (pc' := 18) d_Evaluator_addGroup_17 rfl rfl ?_
  refine VW.gP (ci := 5) (T := T5) (N := 3) (k := 0) (k' := 0) (pc' := 21) d_Evaluator_addGroup_18 rfl lk_Evaluator_142 in5 rfl rfl rfl rfl (by first | exact hO.1 | exact hO.2.2 | exact hE.1 | exact hE.2.2 | assumption) (by first | exact hO.2.1 | exact hE.2.1 | exact tm | rfl) ?_
  refine VW.iload_n (pc' := 22) d_Evaluator_addGroup_21 rfl rfl ?_
  refine VW.iconst (pc' := 23) d_Evaluator_addGroup_22 rfl (by decide) ?_
  refine VW.iadd (pc' := 24) d_Evaluator_addGroup_23 rfl (by omega) ?_
  refine VW.iload_n (pc' := 25) d_Evaluator_addGroup_24 rfl rfl ?_
  refine VW.if_ne (tgt := 32) (pc' := 28) d_Evaluator_addGroup_25 rfl rfl (fun c25 => ?_) (fun c25 => ?_)
  · try have e25 := bIn c25
    refine VW.ldc (pc' := 34) (z := -2147483648) d_Evaluator_addGroup_32 rfl lk_Evaluator_103 (by decide) (by decide) ?_
    refine VW.iast (pc' := 35) d_Evaluator_addGroup_34 rfl (by first | exact hO.1 | exact hO.2.2 | exact hE.1 | exact hE.2.2 | assumption) (by omega) (by omega) ?_
    refine VW.aload_n (pc' := 36) d_Evaluator_addGroup_35 rfl rfl ?_
    refine VW.dup (pc' := 37) d_Evaluator_addGroup_36 rfl rfl ?_
    refine VW.gI (ci := 5) (T := T5) (N := 3) (k := 1) (k' := 1) (pc' := 40) d_Evaluator_addGroup_37 rfl lk_Evaluator_61 in5 rfl rfl rfl rfl (by first | exact hO.1 | exact hO.2.2 | exact hE.1 | exact hE.2.2 | assumption) ((up2_o _ _ _ _ ne).trans (up2_o _ _ _ _ ne)) ?_
    refine VW.iconst (pc' := 41) d_Evaluator_addGroup_40 rfl (by decide) ?_
    refine VW.iadd (pc' := 42) d_Evaluator_addGroup_41 rfl (by omega) ?_
    refine VW.pI (ci := 5) (T := T5) (N := 3) (k := 1) (k' := 1) (ty := ty5) (pc' := 45) d_Evaluator_addGroup_42 rfl lk_Evaluator_61 in5 tk5 nm5 rfl rfl rfl rfl rfl rfl (by first | exact hO.1 | exact hO.2.2 | exact hE.1 | exact hE.2.2 | assumption) ?_
    exact VW.vret d_Evaluator_addGroup_45 rfl (Nat.zero_le _) (Nat.zero_le _) (by first | (rw [gy c25]; exact ex_rf) | (rw [gn c25]; exact ex_rf))
  · try have e25 := bIe c25
    refine VW.iconst (pc' := 29) d_Evaluator_addGroup_28 rfl (by decide) ?_
    refine VW.goto (pc' := 34) d_Evaluator_addGroup_29 rfl ?_
    refine VW.iast (pc' := 35) d_Evaluator_addGroup_34 rfl (by first | exact hO.1 | exact hO.2.2 | exact hE.1 | exact hE.2.2 | assumption) (by omega) (by omega) ?_
    refine VW.aload_n (pc' := 36) d_Evaluator_addGroup_35 rfl rfl ?_
    refine VW.dup (pc' := 37) d_Evaluator_addGroup_36 rfl rfl ?_
    refine VW.gI (ci := 5) (T := T5) (N := 3) (k := 1) (k' := 1) (pc' := 40) d_Evaluator_addGroup_37 rfl lk_Evaluator_61 in5 rfl rfl rfl rfl (by first | exact hO.1 | exact hO.2.2 | exact hE.1 | exact hE.2.2 | assumption) ((up2_o _ _ _ _ ne).trans (up2_o _ _ _ _ ne)) ?_
    refine VW.iconst (pc' := 41) d_Evaluator_addGroup_40 rfl (by decide) ?_
    refine VW.iadd (pc' := 42) d_Evaluator_addGroup_41 rfl (by omega) ?_
    refine VW.pI (ci := 5) (T := T5) (N := 3) (k := 1) (k' := 1) (ty := ty5) (pc' := 45) d_Evaluator_addGroup_42 rfl lk_Evaluator_61 in5 tk5 nm5 rfl rfl rfl rfl rfl rfl (by first | exact hO.1 | exact hO.2.2 | exact hE.1 | exact hE.2.2 | assumption) ?_
    exact VW.vret d_Evaluator_addGroup_45 rfl (Nat.zero_le _) (Nat.zero_le _) (by first | (rw [gy c25]; exact ex_rf) | (rw [gn c25]; exact ex_rf))
theorem sp_Evaluator_gathered {how had v : Int} (h0 : how = 0 → inR (had + 1)) (h1 : how = 1 → v ≠ -2147483648 → had ≠ -2147483648 → inR (had + v)) : Sp m_Evaluator_gathered false (rmv 1 40) (ex K P J I (.inl (some (vI (gath how had v))))) K P J I [vI had, vI how, vI v] := by
  refine Sp.ofV (by decide) (Or.inr rfl) rfl ?_
  have e0 : how = 0 → gath how had v = had + 1 := fun z => if_pos z
  have e1 : ¬ how = 0 → v = -2147483648 → gath how had v = had := fun z z1 => (if_neg z).trans (if_pos z1)
  have e2 : ¬ how = 0 → v ≠ -2147483648 → had = -2147483648 → gath how had v = v := fun z z1 z2 => (if_neg z).trans ((if_neg z1).trans (if_pos z2))
  have e3 : ¬ how = 0 → v ≠ -2147483648 → had ≠ -2147483648 → how = 1 → gath how had v = had + v := fun z z1 z2 z3 => (if_neg z).trans ((if_neg z1).trans ((if_neg z2).trans (if_pos z3)))
  have e4 : ¬ how = 0 → v ≠ -2147483648 → had ≠ -2147483648 → how ≠ 1 → how = 2 → gath how had v = (if v < had then v else had) := fun z z1 z2 z3 z4 => by
    unfold gath
    rw [if_neg z, if_neg z1, if_neg z2, if_neg z3, if_pos z4]
    (repeat' split) <;> omega
  have e5 : ¬ how = 0 → v ≠ -2147483648 → had ≠ -2147483648 → how ≠ 1 → how ≠ 2 → gath how had v = (if had < v then v else had) := fun z z1 z2 z3 z4 => by
    unfold gath
    rw [if_neg z, if_neg z1, if_neg z2, if_neg z3, if_neg z4]
    (repeat' split) <;> omega
  refine VW.iload_n (pc' := 1) d_Evaluator_gathered_0 rfl rfl ?_
  refine VW.if_ne (tgt := 8) (pc' := 4) d_Evaluator_gathered_1 rfl rfl (fun c1 => ?_) (fun c1 => ?_)
  · try have e1 := bIn c1
    refine VW.iload_n (pc' := 9) d_Evaluator_gathered_8 rfl rfl ?_
    refine VW.ldc (pc' := 11) (z := -2147483648) d_Evaluator_gathered_9 rfl lk_Evaluator_103 (by decide) (by decide) ?_
    refine VW.icmp_ne (tgt := 16) (pc' := 14) d_Evaluator_gathered_11 rfl rfl (fun c11 => ?_) (fun c11 => ?_)
    · refine VW.iload_n (pc' := 17) d_Evaluator_gathered_16 rfl rfl ?_
      refine VW.ldc (pc' := 19) (z := -2147483648) d_Evaluator_gathered_17 rfl lk_Evaluator_103 (by decide) (by decide) ?_
      refine VW.icmp_ne (tgt := 24) (pc' := 22) d_Evaluator_gathered_19 rfl rfl (fun c19 => ?_) (fun c19 => ?_)
      · refine VW.iload_n (pc' := 25) d_Evaluator_gathered_24 rfl rfl ?_
        refine VW.iconst (pc' := 26) d_Evaluator_gathered_25 rfl (by decide) ?_
        refine VW.icmp_ne (tgt := 35) (pc' := 29) d_Evaluator_gathered_26 rfl rfl (fun c26 => ?_) (fun c26 => ?_)
        · refine VW.iload_n (pc' := 36) d_Evaluator_gathered_35 rfl rfl ?_
          refine VW.iconst (pc' := 37) d_Evaluator_gathered_36 rfl (by decide) ?_
          refine VW.icmp_ne (tgt := 48) (pc' := 40) d_Evaluator_gathered_37 rfl rfl (fun c37 => ?_) (fun c37 => ?_)
          · refine VW.iload_n (pc' := 49) d_Evaluator_gathered_48 rfl rfl ?_
            refine VW.iload_n (pc' := 50) d_Evaluator_gathered_49 rfl rfl ?_
            refine VW.mm (pc' := 53) true rfl d_Evaluator_gathered_50 rfl lk_Evaluator_159 rfl rfl (Nat.zero_le _) (Nat.zero_le _) ?_
            rw [if_pos rfl]
            exact VW.iret d_Evaluator_gathered_53 rfl rfl (Nat.zero_le _) (Nat.zero_le _) (by first | exact ex_v (e3 c1 c11 c19 c26) | exact ex_v (e4 c1 c11 c19 c26 c37) | exact ex_v (e5 c1 c11 c19 c26 c37))
          · refine VW.iload_n (pc' := 41) d_Evaluator_gathered_40 rfl rfl ?_
            refine VW.iload_n (pc' := 42) d_Evaluator_gathered_41 rfl rfl ?_
            refine VW.mm (pc' := 45) false rfl d_Evaluator_gathered_42 rfl lk_Evaluator_154 rfl rfl (Nat.zero_le _) (Nat.zero_le _) ?_
            rw [if_neg (show ¬ false = true by decide)]
            refine VW.goto (pc' := 53) d_Evaluator_gathered_45 rfl ?_
            exact VW.iret d_Evaluator_gathered_53 rfl rfl (Nat.zero_le _) (Nat.zero_le _) (by first | exact ex_v (e3 c1 c11 c19 c26) | exact ex_v (e4 c1 c11 c19 c26 c37) | exact ex_v (e5 c1 c11 c19 c26 c37))
        · refine VW.iload_n (pc' := 30) d_Evaluator_gathered_29 rfl rfl ?_
          refine VW.iload_n (pc' := 31) d_Evaluator_gathered_30 rfl rfl ?_
          refine VW.iadd (pc' := 32) d_Evaluator_gathered_31 rfl (h1 c26 c11 c19) ?_
          refine VW.goto (pc' := 53) d_Evaluator_gathered_32 rfl ?_
          exact VW.iret d_Evaluator_gathered_53 rfl rfl (Nat.zero_le _) (Nat.zero_le _) (by first | exact ex_v (e3 c1 c11 c19 c26) | exact ex_v (e4 c1 c11 c19 c26 c37) | exact ex_v (e5 c1 c11 c19 c26 c37))
      · refine VW.iload_n (pc' := 23) d_Evaluator_gathered_22 rfl rfl ?_
        exact VW.iret d_Evaluator_gathered_23 rfl rfl (Nat.zero_le _) (Nat.zero_le _) (ex_v (e2 c1 c11 c19))
    · refine VW.iload_n (pc' := 15) d_Evaluator_gathered_14 rfl rfl ?_
      exact VW.iret d_Evaluator_gathered_15 rfl rfl (Nat.zero_le _) (Nat.zero_le _) (ex_v (e1 c1 c11))
  · try have e1 := bIe c1
    refine VW.iload_n (pc' := 5) d_Evaluator_gathered_4 rfl rfl ?_
    refine VW.iconst (pc' := 6) d_Evaluator_gathered_5 rfl (by decide) ?_
    refine VW.iadd (pc' := 7) d_Evaluator_gathered_6 rfl (h0 c1) ?_
    exact VW.iret d_Evaluator_gathered_7 rfl rfl (Nat.zero_le _) (Nat.zero_le _) (ex_v (e0 c1))
theorem sp_Evaluator_groupOf {eo co m : Nat} {key : Int} (hO : ReW K P eo co 5120) (hw : I eo 2 = 2) (hm : I eo 1 = m) (h5 : m ≤ 600) : Sp m_Evaluator_groupOf false (rmv 1 22) (ex K P J I (.inl (some (vI (gfI I co key m))))) K P J I [vR (some eo), vI key] := by
  refine Sp.ofV (by decide) (Or.inr rfl) rfl ?_
  have loop : ∀ (l j : Nat), j + l = m → fs (fun j => I co (j * 2) = key) (j : Int) l = gfI I co key m → VW m_Evaluator_groupOf false (rmv 1 22) (ex K P J I (.inl (some (vI (gfI I co key m))))) K P J I 0 0 2 [(0, vR (some eo)), (1, vI key), (2, vI (j : Int))] [] := by
    intro l
    induction l with
    | zero =>
      intro j hj he
      have he' : -1 = gfI I co key m := he
      refine VW.iload_n (pc' := 3) d_Evaluator_groupOf_2 rfl rfl ?_
      refine VW.aload_n (pc' := 4) d_Evaluator_groupOf_3 rfl rfl ?_
      refine VW.gI (ci := 5) (T := T5) (N := 3) (k := 1) (k' := 1) (pc' := 7) d_Evaluator_groupOf_4 rfl lk_Evaluator_61 in5 rfl rfl rfl rfl (by first | exact hO.1 | exact hO.2.2 | exact hE.1 | exact hE.2.2 | assumption) (hm) ?_
      refine VW.icmp_ge (tgt := 28) (pc' := 10) d_Evaluator_groupOf_7 rfl rfl (fun c7 => ?_) (fun c7 => ?_)
      · refine VW.iconst (pc' := 29) d_Evaluator_groupOf_28 rfl (by decide) ?_
        exact VW.iret d_Evaluator_groupOf_29 rfl rfl (Nat.zero_le _) (Nat.zero_le _) (by rw [← he']; exact ex_rf)
      · exfalso; omega
    | succ l ih =>
      intro j hj he
      have no := fun (z : ¬ I co ((j : Int) * 2) = key) => by
        have h := ih (j + 1) (by omega)
        rw [show ((j + 1 : Nat) : Int) = (j : Int) + 1 by omega] at h
        exact h ((fs_no (g := fun j => I co (j * 2) = key) z).symm.trans he)
      have ys := fun (z : I co ((j : Int) * 2) = key) => (fs_yes (g := fun j => I co (j * 2) = key) (n := l) z).symm.trans he
      have e0 : (j : Int) * I eo 2 + 0 = (j : Int) * 2 := by rw [hw]; omega
      clear ih he
      refine VW.iload_n (pc' := 3) d_Evaluator_groupOf_2 rfl rfl ?_
      refine VW.aload_n (pc' := 4) d_Evaluator_groupOf_3 rfl rfl ?_
      refine VW.gI (ci := 5) (T := T5) (N := 3) (k := 1) (k' := 1) (pc' := 7) d_Evaluator_groupOf_4 rfl lk_Evaluator_61 in5 rfl rfl rfl rfl (by first | exact hO.1 | exact hO.2.2 | exact hE.1 | exact hE.2.2 | assumption) (hm) ?_
      refine VW.icmp_ge (tgt := 28) (pc' := 10) d_Evaluator_groupOf_7 rfl rfl (fun c7 => ?_) (fun c7 => ?_)
      · exfalso; omega
      · refine VW.aload_n (pc' := 11) d_Evaluator_groupOf_10 rfl rfl ?_
        refine VW.iload_n (pc' := 12) d_Evaluator_groupOf_11 rfl rfl ?_
        refine VW.iconst (pc' := 13) d_Evaluator_groupOf_12 rfl (by decide) ?_
        refine VW.cV (ci := 5) (T := T5) (N := 3) (pc' := 16) d_Evaluator_groupOf_13 rfl mv_Relation_cell lk_Evaluator_135 rfl (by first | exact hO.1 | exact hO.2.2 | exact hE.1 | exact hE.2.2 | assumption) rfl rfl rfl (Nat.le_refl _) (Nat.le_refl _) (sp_Relation_cell hO (by rw [hw]; omega)) rfl rfl ?_
        refine VW.iload_n (pc' := 17) d_Evaluator_groupOf_16 rfl rfl ?_
        refine VW.icmp_ne (tgt := 22) (pc' := 20) d_Evaluator_groupOf_17 rfl rfl (fun c17 => ?_) (fun c17 => ?_)
        · refine VW.iinc (pc' := 25) d_Evaluator_groupOf_22 rfl rfl rfl (by omega) ?_
          refine VW.goto (pc' := 2) d_Evaluator_groupOf_25 rfl ?_
          refine VW.pick [0, 1, 2] ?_
          exact no (e0 ▸ c17)
        · refine VW.iload_n (pc' := 21) d_Evaluator_groupOf_20 rfl rfl ?_
          exact VW.iret d_Evaluator_groupOf_21 rfl rfl (Nat.zero_le _) (Nat.zero_le _) (ex_v (ys (e0 ▸ c17)).symm)
  have l := loop m 0 (by omega) rfl
  clear loop
  refine VW.iconst (pc' := 1) d_Evaluator_groupOf_0 rfl (by decide) ?_
  refine VW.istore_n (pc' := 2) d_Evaluator_groupOf_1 rfl rfl ?_
  refine VW.nrm ?_
  exact l
end
