section
variable {M : MD} {x : Bool} {R : Room} {Q : PQ} {K : KT} {P : PT} {J I : IT} {cs n pc pc' : Nat} {L : List (Nat × AV)} {S : List AV}
theorem VW.aload_nN {i : Fin 4} (d : decode M.2.1 pc = .ok (.aload_n i, 1)) (hp : pc + 1 = pc') (h : lkp L (i : Nat) = some (vR none)) (k : VW M x R Q K P J I cs n pc' L (vR none :: S)) : VW M x R Q K P J I cs n pc L S := by
  subst hp
  exact VW.go k (fun X hl kk => lv_aload_nN X.1.1 X.1.2.1 d rfl (lkp_at h hl) (kk _ (WFs.cons (X.2.2.2.2.2.1.at h) X.2.2.2.2.1) X.2.2.2.2.2.1 hl))
theorem VW.aloadN {i : Nat} (d : decode M.2.1 pc = .ok (.aload i, 2)) (hp : pc + 2 = pc') (h : lkp L i = some (vR none)) (k : VW M x R Q K P J I cs n pc' L (vR none :: S)) : VW M x R Q K P J I cs n pc L S := by
  subst hp
  exact VW.go k (fun X hl kk => lv_aloadN X.1.1 X.1.2.1 d (lkp_at h hl) (kk _ (WFs.cons (X.2.2.2.2.2.1.at h) X.2.2.2.2.1) X.2.2.2.2.2.1 hl))
theorem VW.astore_nN {i : Fin 4} (d : decode M.2.1 pc = .ok (.astore_n i, 1)) (hp : pc + 1 = pc') (hi : Nat.ble ((i : Nat) + 1) M.2.2.1 = true) (k : VW M x R Q K P J I cs n pc' (st1 L (i : Nat) (vR none)) S) : VW M x R Q K P J I cs n pc L (vR none :: S) := by
  subst hp
  exact VW.go k (fun {_ _ _ _ _ _ _ _ _ _ _ ad _ _ _ _ _ _} X hl kk => lv_astore_nN X.1.1 X.1.2.1 d rfl hl (Nat.le_of_ble_eq_true hi) (st1_cl ad L (i : Nat) (vR none)) (fun ls' hl' => kk ls' X.2.2.2.2.1.tl (X.2.2.2.2.2.1.st1 X.2.2.2.2.1.hd) hl'))
theorem VW.astoreN {i : Nat} (d : decode M.2.1 pc = .ok (.astore i, 2)) (hp : pc + 2 = pc') (hi : Nat.ble (i + 1) M.2.2.1 = true) (k : VW M x R Q K P J I cs n pc' (st1 L i (vR none)) S) : VW M x R Q K P J I cs n pc L (vR none :: S) := by
  subst hp
  exact VW.go k (fun {_ _ _ _ _ _ _ _ _ _ _ ad _ _ _ _ _ _} X hl kk => lv_astoreN X.1.1 X.1.2.1 d hl (Nat.le_of_ble_eq_true hi) (st1_cl ad L i (vR none)) (fun ls' hl' => kk ls' X.2.2.2.2.1.tl (X.2.2.2.2.2.1.st1 X.2.2.2.2.1.hd) hl'))
end
section
variable {K : KT} {P : PT} {J I : IT}
def reAdd (I : IT) (e c d : Nat) (A : Int) : IT := up2 (cpyI I d A c (I e 1 * I e 2) (I e 2)) e 1 (I e 1 + 1)
theorem reAdd_o {e c d o : Nat} {A : Int} (h1 : o ≠ e) (h2 : o ≠ c) : reAdd I e c d A o = I o := by
  funext k
  exact (up2_o _ _ _ _ h1).trans (if_neg (fun q => h2 q.1))
theorem reAdd_R {e c d w : Nat} {A : Int} {L : List (List Int)} (hne : e ≠ c) (h : RelR I e c w L) : RelR (reAdd I e c d A) e c w (L ++ [rowAt I d A w]) := by
  obtain ⟨h1, h2, h3⟩ := h
  have em : I e 1 * I e 2 = (w : Int) * (L.length : Int) := by rw [h1, h2, Int.mul_comm]
  refine RelR.add ⟨h1, h2, h3⟩ ?_ ?_ (fun q q0 q1 => ?_) ?_
  · exact (up2_k _ _ _ _ (by decide)).trans ((if_neg (fun q => hne q.1)).trans h1)
  · exact (up2_eq _ _ _ _).trans (by rw [h2])
  · exact (up2_o _ _ _ _ hne.symm).trans (cpyI_out (Or.inr (Or.inl (by rw [em]; exact q1))))
  · apply rowAt_congr
    intro q q0 q1
    refine (up2_o _ _ _ _ hne.symm).trans ?_
    rw [em, h1]
    rw [cpyI_in (by omega) (by omega)]
    congr 1
    omega
noncomputable def rePair (I : IT) (e c f d g h : Nat) (y z : Int) : IT := up2 (rePart (rePart I e c f d 0 y) e c g h (I f 2) z) e 1 (I e 1 + 1)
theorem rePair_o {e c f d g h o : Nat} {y z : Int} (h1 : o ≠ e) (h2 : o ≠ c) : rePair I e c f d g h y z o = I o := by
  funext k
  exact (up2_o _ _ _ _ h1).trans ((congrFun (rePart_o h2) k).trans (congrFun (rePart_o h2) k))
theorem rpRow_of {S : IT} {d w : Nat} {z : Int} (h : S d = I d) : rpRow S d w z = rpRow I d w z := by
  unfold rpRow
  split
  · rfl
  · exact rowAt_congr (fun q _ _ => by rw [h])
theorem rePair_R {e c f d g h wl wr : Nat} {y z : Int} {L : List (List Int)} (hne : e ≠ c) (hf : f ≠ c) (hg : g ≠ c) (hh : h ≠ c) (hR : RelR I e c (wl + wr) L) (hl : I f 2 = wl) (hr : I g 2 = wr) : RelR (rePair I e c f d g h y z) e c (wl + wr) (L ++ [rpRow I d wl y ++ rpRow I h wr z]) := by
  have hR0 := hR
  obtain ⟨h1, h2, h3⟩ := hR
  have em : I e 1 * I e 2 = ((wl + wr : Nat) : Int) * (L.length : Int) := by rw [h1, h2, Int.mul_comm]
  have e1 : rePart I e c f d 0 y e = I e := rePart_o hne
  have g1 : rePart I e c f d 0 y g = I g := rePart_o hg
  have e2 : rePart (rePart I e c f d 0 y) e c g h (I f 2) z e = I e := (rePart_o hne).trans e1
  refine RelR.add hR0 ?_ ?_ (fun q q0 q1 => ?_) ?_
  · exact (up2_k _ _ _ _ (by decide)).trans ((congrFun e2 2).trans h1)
  · exact (up2_eq _ _ _ _).trans (by rw [h2])
  · refine (up2_o _ _ _ _ hne.symm).trans ?_
    refine (rePart_out (Or.inl ?_)).trans (rePart_out (Or.inl ?_))
    · rw [e1, em, hl]; omega
    · rw [em]; omega
  · rw [rowAt_add]
    have ec : ∀ q, rePair I e c f d g h y z c q = rePart (rePart I e c f d 0 y) e c g h (I f 2) z c q := fun q => up2_o _ _ _ _ hne.symm
    congr 1
    · rw [← rePart_row (e := e) (c := c) (col := 0) (I := I) (d := d) (z := y) hl]
      apply rowAt_congr
      intro q q0 q1
      rw [ec, rePart_out (Or.inl (by rw [e1, em, hl]; omega)), em, Int.add_zero]
    · rw [← rpRow_of (I := I) (S := rePart I e c f d 0 y) (rePart_o hh), ← rePart_row (e := e) (c := c) (f := g) (col := I f 2) (I := rePart I e c f d 0 y) (d := h) (z := z) (w := wr) (by rw [g1]; exact hr)]
      apply rowAt_congr
      intro q q0 q1
      rw [ec, e1, em, hl]
theorem bI_mem {x : List Int} {L : List (List Int)} : bI (x ∈ L) = 0 ∨ bI (x ∈ L) = 1 := bI_01 _
theorem sp_Relation_holds {e c n : Nat} {f d nf w : Nat} {z : Int} {L : List (List Int)} (hG : ReW K P e c n) (hF : ReW K P f d nf) (hR : RelR I e c w L) (hw : w ≤ 10) (hL : L.length ≤ 512) (hn : n = 5120) (hb : 0 ≤ z * (w : Int) ∧ z * (w : Int) + w ≤ nf ∧ nf ≤ 524288) : Sp m_Relation_holds false (rmv 2 46) (ex K P J I (.inl (some (vI (bI ((rowAt I d (z * (w : Int)) w) ∈ L)))))) K P J I [vR (some e), vR (some f), vI z] := by
  refine Sp.ofV (by decide) (Or.inr rfl) rfl ?_
  have loop : ∀ (l j : Nat), j + l = L.length → (∀ i r, i < j → L[i]? = some r → r ≠ (rowAt I d (z * (w : Int)) w)) → VW m_Relation_holds false (rmv 2 46) (ex K P J I (.inl (some (vI (bI ((rowAt I d (z * (w : Int)) w) ∈ L)))))) K P J I 0 0 2 [(0, vR (some e)), (1, vR (some f)), (2, vI z), (3, vI (j : Int))] [] := by
    intro l
    induction l with
    | zero =>
      intro j hj hno
      have e0 : bI ((rowAt I d (z * (w : Int)) w) ∈ L) = 0 := bI0 (fun h => by
        obtain ⟨i, hi⟩ := List.getElem?_of_mem h
        exact hno i _ (by have := (List.getElem?_eq_some_iff.mp hi).1; omega) hi rfl)
      have h2 := hR.2.1
      refine VW.iload_n (pc' := 3) d_Relation_holds_2 rfl rfl ?_
      refine VW.aload_n (pc' := 4) d_Relation_holds_3 rfl rfl ?_
      refine VW.gI (ci := 5) (T := T5) (N := 3) (k := 1) (k' := 1) (pc' := 7) d_Relation_holds_4 rfl lk_Relation_15 in5 rfl rfl rfl rfl (by first | exact hG.1 | exact hG.2.2 | exact hF.1 | exact hF.2.2 | exact hE.1 | exact hE.2.2 | assumption) (h2) ?_
      refine VW.icmp_ge (tgt := 28) (pc' := 10) d_Relation_holds_7 rfl rfl (fun c7 => ?_) (fun c7 => ?_)
      · refine VW.iconst (pc' := 29) d_Relation_holds_28 rfl (by decide) ?_
        exact VW.iret d_Relation_holds_29 rfl rfl (Nat.zero_le _) (Nat.zero_le _) (by rw [e0]; exact ex_rf)
      · exfalso; omega
    | succ l ih =>
      intro j hj hno
      have h2 := hR.2.1
      have m1 := relMul (w := w) (m := j) hw (by omega)
      have hrow := hR.row (k := j) (by omega)
      rw [Int.mul_comm] at hrow
      have sp := rcp_spec (rowAt I c ((j : Int) * (w : Int)) w) (rowAt I d (z * (w : Int)) w) (by rw [rowAt_len, rowAt_len])
      have yes : rcp (rowAt I c ((j : Int) * (w : Int)) w) (rowAt I d (z * (w : Int)) w) = 0 → bI ((rowAt I d (z * (w : Int)) w) ∈ L) = 1 := fun q => bI1 (by rw [← sp.1.mp q]; exact List.mem_of_getElem? hrow)
      have nx : rcp (rowAt I c ((j : Int) * (w : Int)) w) (rowAt I d (z * (w : Int)) w) ≠ 0 → VW m_Relation_holds false (rmv 2 46) (ex K P J I (.inl (some (vI (bI ((rowAt I d (z * (w : Int)) w) ∈ L)))))) K P J I 0 0 2 [(0, vR (some e)), (1, vR (some f)), (2, vI z), (3, vI ((j : Int) + 1))] [] := fun q => by
        have h := ih (j + 1) (by omega)
        rw [show ((j + 1 : Nat) : Int) = (j : Int) + 1 by omega] at h
        refine h (fun i r hi hr e9 => ?_)
        by_cases e8 : i = j
        · subst e8
          rw [hrow] at hr
          cases hr
          exact q (sp.1.mpr e9)
        · exact hno i r (by omega) hr e9
      clear ih hno
      refine VW.iload_n (pc' := 3) d_Relation_holds_2 rfl rfl ?_
      refine VW.aload_n (pc' := 4) d_Relation_holds_3 rfl rfl ?_
      refine VW.gI (ci := 5) (T := T5) (N := 3) (k := 1) (k' := 1) (pc' := 7) d_Relation_holds_4 rfl lk_Relation_15 in5 rfl rfl rfl rfl (by first | exact hG.1 | exact hG.2.2 | exact hF.1 | exact hF.2.2 | exact hE.1 | exact hE.2.2 | assumption) (h2) ?_
      refine VW.icmp_ge (tgt := 28) (pc' := 10) d_Relation_holds_7 rfl rfl (fun c7 => ?_) (fun c7 => ?_)
      · exfalso; omega
      · refine VW.aload_n (pc' := 11) d_Relation_holds_10 rfl rfl ?_
        refine VW.iload_n (pc' := 12) d_Relation_holds_11 rfl rfl ?_
        refine VW.aload_n (pc' := 13) d_Relation_holds_12 rfl rfl ?_
        refine VW.iload_n (pc' := 14) d_Relation_holds_13 rfl rfl ?_
        refine VW.cV (ci := 5) (T := T5) (N := 3) (pc' := 17) d_Relation_holds_14 rfl mv_Relation_compareRows lk_Relation_51 rfl (by first | exact hG.1 | exact hG.2.2 | exact hF.1 | exact hF.2.2 | exact hE.1 | exact hE.2.2 | assumption) rfl rfl rfl (Nat.le_refl _) (Nat.le_refl _) (sp_Relation_compareRows hG hF ⟨hR.1, hw⟩ (by omega) hb) rfl rfl ?_
        refine VW.if_ne (tgt := 22) (pc' := 20) d_Relation_holds_17 rfl rfl (fun c17 => ?_) (fun c17 => ?_)
        · try have e17 := bIn c17
          refine VW.iinc (pc' := 25) d_Relation_holds_22 rfl rfl rfl (by omega) ?_
          refine VW.goto (pc' := 2) d_Relation_holds_25 rfl ?_
          refine VW.pick [0, 1, 2, 3] ?_
          exact nx c17
        · try have e17 := bIe c17
          refine VW.iconst (pc' := 21) d_Relation_holds_20 rfl (by decide) ?_
          exact VW.iret d_Relation_holds_21 rfl rfl (Nat.zero_le _) (Nat.zero_le _) (by rw [yes c17]; exact ex_rf)
  have l := loop L.length 0 (by omega) (fun i r h _ => by omega)
  clear loop
  refine VW.iconst (pc' := 1) d_Relation_holds_0 rfl (by decide) ?_
  refine VW.istore_n (pc' := 2) d_Relation_holds_1 rfl rfl ?_
  refine VW.nrm ?_
  exact l
theorem sp_Relation_addOnce {e c n : Nat} {f d nf w : Nat} {z : Int} {L : List (List Int)} (hG : ReW K P e c n) (hF : ReW K P f d nf) (hR : RelR I e c w L) (hw : w ≤ 10) (hL : L.length < 512) (hn : n = 5120) (hf2 : I f 2 = w) (hb : 0 ≤ z * (w : Int) ∧ z * (w : Int) + w ≤ nf ∧ nf ≤ 524288) : Sp m_Relation_addOnce false (rmv 3 160) (ex K P J (if bI ((rowAt I d (z * (w : Int)) w) ∈ L) = 1 then I else (reAdd I e c d (z * (w : Int)))) (.inl none)) K P J I [vR (some e), vR (some f), vI z] := by
  refine Sp.ofV (by decide) (Or.inr rfl) rfl ?_
  have m1 := relMul (w := w) (m := L.length) hw (by omega)
  have h1 := hR.1
  have h2 := hR.2.1
  have yes : bI ((rowAt I d (z * (w : Int)) w) ∈ L) ≠ 0 → (if bI ((rowAt I d (z * (w : Int)) w) ∈ L) = 1 then I else (reAdd I e c d (z * (w : Int)))) = I := fun q => if_pos (by have := bI_mem (x := (rowAt I d (z * (w : Int)) w)) (L := L); omega)
  have no : bI ((rowAt I d (z * (w : Int)) w) ∈ L) = 0 → (if bI ((rowAt I d (z * (w : Int)) w) ∈ L) = 1 then I else (reAdd I e c d (z * (w : Int)))) = up2 (cpyI I d (z * I f 2) c (I e 1 * I e 2) (I e 2)) e 1 (I e 1 + 1) := fun q => by
    rw [if_neg (by omega)]
    unfold reAdd
    rw [hf2]
  refine VW.aload_n (pc' := 1) d_Relation_addOnce_0 rfl rfl ?_
  refine VW.aload_n (pc' := 2) d_Relation_addOnce_1 rfl rfl ?_
  refine VW.iload_n (pc' := 3) d_Relation_addOnce_2 rfl rfl ?_
  refine VW.cV (ci := 5) (T := T5) (N := 3) (pc' := 6) d_Relation_addOnce_3 rfl mv_Relation_holds lk_Relation_43 rfl (by first | exact hG.1 | exact hG.2.2 | exact hF.1 | exact hF.2.2 | exact hE.1 | exact hE.2.2 | assumption) rfl rfl rfl (Nat.le_refl _) (Nat.le_refl _) (sp_Relation_holds hG hF hR hw (by omega) hn hb) rfl rfl ?_
  refine VW.if_ne (tgt := 15) (pc' := 9) d_Relation_addOnce_6 rfl rfl (fun c6 => ?_) (fun c6 => ?_)
  · try have e6 := bIn c6
    exact VW.vret d_Relation_addOnce_15 rfl (Nat.zero_le _) (Nat.zero_le _) (by first | (rw [yes c6]; exact ex_rf) | (rw [no c6]; exact ex_rf))
  · try have e6 := bIe c6
    refine VW.aload_n (pc' := 10) d_Relation_addOnce_9 rfl rfl ?_
    refine VW.aload_n (pc' := 11) d_Relation_addOnce_10 rfl rfl ?_
    refine VW.iload_n (pc' := 12) d_Relation_addOnce_11 rfl rfl ?_
    refine VW.cV (ci := 5) (T := T5) (N := 3) (pc' := 15) d_Relation_addOnce_12 rfl mv_Relation_addRow lk_Relation_47 rfl (by first | exact hG.1 | exact hG.2.2 | exact hF.1 | exact hF.2.2 | exact hE.1 | exact hE.2.2 | assumption) rfl rfl rfl (Nat.le_refl _) (Nat.le_refl _) (sp_Relation_addRow hG hF (by omega) (by rw [h1, h2]; omega) (by rw [hf2, h1]; exact hb)) rfl rfl ?_
    exact VW.vret d_Relation_addOnce_15 rfl (Nat.zero_le _) (Nat.zero_le _) (by first | (rw [yes c6]; exact ex_rf) | (rw [no c6]; exact ex_rf))
theorem sp_Relation_copyFrom {e c n : Nat} {f d nf : Nat} (hG : ReW K P e c n) (hF : ReW K P f d nf) (hnf : e ≠ f) (hb : 0 ≤ I f 1 * I f 2 ∧ I f 1 * I f 2 ≤ n ∧ I f 1 * I f 2 ≤ nf ∧ nf ≤ 524288) : Sp m_Relation_copyFrom false (rmv 1 40) (ex K P J (cpyI (up2 (up2 I e 1 (I f 1)) e 2 (I f 2)) d 0 c 0 (I f 1 * I f 2)) (.inl none)) K P J I [vR (some e), vR (some f)] := by
  refine Sp.ofV (by decide) (Or.inr rfl) rfl ?_
  have ne : f ≠ e := fun z => hnf z.symm
  refine VW.aload_n (pc' := 1) d_Relation_copyFrom_0 rfl rfl ?_
  refine VW.ifnonnull (pc' := 5) d_Relation_copyFrom_1 rfl ?_
  refine VW.aload_n (pc' := 6) d_Relation_copyFrom_5 rfl rfl ?_
  refine VW.aload_n (pc' := 7) d_Relation_copyFrom_6 rfl rfl ?_
  refine VW.gI (ci := 5) (T := T5) (N := 3) (k := 1) (k' := 1) (pc' := 10) d_Relation_copyFrom_7 rfl lk_Relation_15 in5 rfl rfl rfl rfl (by first | exact hG.1 | exact hG.2.2 | exact hF.1 | exact hF.2.2 | exact hE.1 | exact hE.2.2 | assumption) (by first | exact hG.2.1 | exact hF.2.1 | exact hE.2.1 | rfl) ?_
  refine VW.pI (ci := 5) (T := T5) (N := 3) (k := 1) (k' := 1) (ty := ty5) (pc' := 13) d_Relation_copyFrom_10 rfl lk_Relation_15 in5 tk5 nm5 rfl rfl rfl rfl rfl rfl (by first | exact hG.1 | exact hG.2.2 | exact hF.1 | exact hF.2.2 | exact hE.1 | exact hE.2.2 | assumption) ?_
  refine VW.aload_n (pc' := 14) d_Relation_copyFrom_13 rfl rfl ?_
  refine VW.aload_n (pc' := 15) d_Relation_copyFrom_14 rfl rfl ?_
  refine VW.gI (ci := 5) (T := T5) (N := 3) (k := 2) (k' := 2) (pc' := 18) d_Relation_copyFrom_15 rfl lk_Relation_19 in5 rfl rfl rfl rfl (by first | exact hG.1 | exact hG.2.2 | exact hF.1 | exact hF.2.2 | exact hE.1 | exact hE.2.2 | assumption) (up2_o _ _ _ _ ne) ?_
  refine VW.pI (ci := 5) (T := T5) (N := 3) (k := 2) (k' := 2) (ty := ty5) (pc' := 21) d_Relation_copyFrom_18 rfl lk_Relation_19 in5 tk5 nm5 rfl rfl rfl rfl rfl rfl (by first | exact hG.1 | exact hG.2.2 | exact hF.1 | exact hF.2.2 | exact hE.1 | exact hE.2.2 | assumption) ?_
  refine VW.aload_n (pc' := 22) d_Relation_copyFrom_21 rfl rfl ?_
  refine VW.gP (ci := 5) (T := T5) (N := 3) (k := 0) (k' := 0) (pc' := 25) d_Relation_copyFrom_22 rfl lk_Relation_9 in5 rfl rfl rfl rfl (by first | exact hG.1 | exact hG.2.2 | exact hF.1 | exact hF.2.2 | exact hE.1 | exact hE.2.2 | assumption) (by first | exact hG.2.1 | exact hF.2.1 | exact hE.2.1 | rfl) ?_
  refine VW.iconst (pc' := 26) d_Relation_copyFrom_25 rfl (by decide) ?_
  refine VW.aload_n (pc' := 27) d_Relation_copyFrom_26 rfl rfl ?_
  refine VW.gP (ci := 5) (T := T5) (N := 3) (k := 0) (k' := 0) (pc' := 30) d_Relation_copyFrom_27 rfl lk_Relation_9 in5 rfl rfl rfl rfl (by first | exact hG.1 | exact hG.2.2 | exact hF.1 | exact hF.2.2 | exact hE.1 | exact hE.2.2 | assumption) (by first | exact hG.2.1 | exact hF.2.1 | exact hE.2.1 | rfl) ?_
  refine VW.iconst (pc' := 31) d_Relation_copyFrom_30 rfl (by decide) ?_
  refine VW.aload_n (pc' := 32) d_Relation_copyFrom_31 rfl rfl ?_
  refine VW.gI (ci := 5) (T := T5) (N := 3) (k := 1) (k' := 1) (pc' := 35) d_Relation_copyFrom_32 rfl lk_Relation_15 in5 rfl rfl rfl rfl (by first | exact hG.1 | exact hG.2.2 | exact hF.1 | exact hF.2.2 | exact hE.1 | exact hE.2.2 | assumption) ((up2_k _ _ _ _ (by decide)).trans (up2_eq _ _ _ _)) ?_
  refine VW.aload_n (pc' := 36) d_Relation_copyFrom_35 rfl rfl ?_
  refine VW.gI (ci := 5) (T := T5) (N := 3) (k := 2) (k' := 2) (pc' := 39) d_Relation_copyFrom_36 rfl lk_Relation_19 in5 rfl rfl rfl rfl (by first | exact hG.1 | exact hG.2.2 | exact hF.1 | exact hF.2.2 | exact hE.1 | exact hE.2.2 | assumption) (up2_eq _ _ _ _) ?_
  refine VW.imul (pc' := 40) d_Relation_copyFrom_39 rfl (by omega) ?_
  refine VW.copyi (pc' := 43) d_Relation_copyFrom_40 rfl lk_Relation_22 hF.2.2 hG.2.2 (by omega) (by omega) (by omega) (by omega) (by omega) rfl rfl ?_
  exact VW.vret d_Relation_copyFrom_43 rfl (Nat.zero_le _) (Nat.zero_le _) ex_rf
theorem sp_Relation_copyNull {e c n : Nat} (hG : ReW K P e c n) : Sp m_Relation_copyFrom false (rmv 1 40) (ex K P J I (.inl none)) K P J I [vR (some e), vR none] := by
  refine Sp.ofV (by decide) (Or.inr rfl) rfl ?_
  refine VW.aload_nN (pc' := 1) d_Relation_copyFrom_0 rfl rfl ?_
  refine VW.ifnonnullN (pc' := 4) d_Relation_copyFrom_1 rfl ?_
  exact VW.vret d_Relation_copyFrom_4 rfl (Nat.zero_le _) (Nat.zero_le _) ex_rf
theorem sp_Relation_init {e c : Nat} (he : K e = some (5, 0)) (hc : K c = none) : Sp m_Relation_init false ({ frames := 1, cells := 1, slots := 5120, locals := 40 } : Room) (ex (upK K c (100, 5120)) (up2 P e 0 (some c)) J I (.inl none)) K P J I [vR (some e)] := by
  refine Sp.ofV (by decide) (Or.inr rfl) rfl ?_
  have he' : upK K c (100, 5120) e = some (5, 0) := (upK_o _ _ (fun z => by rw [z, hc] at he; cases he)).trans he
  refine VW.aload_n (pc' := 1) d_Relation_init_0 rfl rfl ?_
  refine VW.objI (pc' := 4) d_Relation_init_1 rfl lk_Relation_3 rfl rfl rfl ?_
  refine VW.aload_n (pc' := 5) d_Relation_init_4 rfl rfl ?_
  refine VW.sipush (pc' := 8) d_Relation_init_5 rfl (by decide) ?_
  refine VW.newI c (N := 5120) (pc' := 10) d_Relation_init_8 rfl kw_arrayClass_int rfl (by decide) hc (by decide) (by decide) ?_
  refine VW.pPF (ci := 5) (T := T5) (N := 3) (k := 0) (k' := 0) (ty := ty5) (pc' := 13) d_Relation_init_10 rfl lk_Relation_9 in5 tk5 nm5 rfl rfl rfl rfl rfl rfl rfl (by first | exact Or.inl ⟨_, rfl⟩ | exact Or.inr ⟨_, rfl⟩) (by first | exact hG.1 | exact hG.2.2 | exact hF.1 | exact hF.2.2 | exact hE.1 | exact hE.2.2 | assumption) ?_
  exact VW.vret d_Relation_init_13 rfl (by decide) (by decide) ex_rf
end
