section
variable {K : KT} {P : PT} {J I : IT}
/-- the row of a number -/
def rwN (I : IT) (c w : Nat) (i : Int) : List Int := rowAt I c (i * (w : Int)) w
theorem rwN_len {c w : Nat} {i : Int} : (rwN I c w i).length = w := rowAt_len
/-- merging: p of the left ones and q of the right ones are laid -/
def MgI (I T : IT) (c w o s f m e p q : Nat) : Prop := (p ≤ m - f ∧ q ≤ e - m) ∧ (rowAt T s f (p + q)).Perm (rowAt I o f p ++ rowAt I o m q) ∧ (rowAt T s f (p + q)).Pairwise (fun a b => rle (rwN I c w a) (rwN I c w b)) ∧
  (∀ x ∈ rowAt T s f (p + q), (∀ j : Nat, p ≤ j → j < m - f → rle (rwN I c w x) (rwN I c w (I o ((f : Int) + j)))) ∧ ∀ j : Nat, q ≤ j → j < e - m → rle (rwN I c w x) (rwN I c w (I o ((m : Int) + j)))) ∧
  ∀ (y : Nat) (z : Int), (y ≠ s ∨ z < f ∨ (e : Int) ≤ z) → T y z = I y z
/-- two runs that rise -/
def MgS (I : IT) (c w o f m e : Nat) : Prop := (∀ i j : Nat, i < j → j < m - f → rle (rwN I c w (I o ((f : Int) + i))) (rwN I c w (I o ((f : Int) + j)))) ∧ ∀ i j : Nat, i < j → j < e - m → rle (rwN I c w (I o ((m : Int) + i))) (rwN I c w (I o ((m : Int) + j)))
theorem mg_row {T : IT} {s f n : Nat} {x : Int} : rowAt (up2 T s ((f : Int) + n) x) s f (n + 1) = rowAt T s f n ++ [x] := by
  rw [rowAt_succ, up2_eq]
  congr 1
  exact rowAt_congr (fun q q0 q1 => up2_k _ _ _ _ (by omega))
theorem MgI.left {T : IT} {c w o s f m e p q : Nat} (h : MgI I T c w o s f m e p q) (hS : MgS I c w o f m e) (hfm : f ≤ m ∧ m ≤ e) (hp : p < m - f) (hx : q < e - m → rle (rwN I c w (I o ((f : Int) + p))) (rwN I c w (I o ((m : Int) + q)))) : MgI I (up2 T s ((f : Int) + ((p + q : Nat) : Int)) (I o ((f : Int) + p))) c w o s f m e (p + 1) q := by
  obtain ⟨h0, h1, h2, h3, h4⟩ := h
  have er : rowAt (up2 T s ((f : Int) + ((p + q : Nat) : Int)) (I o ((f : Int) + p))) s f (p + 1 + q) = rowAt T s f (p + q) ++ [I o ((f : Int) + p)] := by
    rw [show p + 1 + q = (p + q) + 1 by omega]
    exact mg_row
  unfold MgI
  rw [er, rowAt_succ]
  refine ⟨⟨by omega, h0.2⟩, ?_, ?_, ?_, ?_⟩
  · refine (h1.append_right _).trans ?_
    rw [List.append_assoc, List.append_assoc]
    exact (List.perm_append_comm).append_left _
  · rw [List.pairwise_append]
    refine ⟨h2, List.pairwise_singleton _ _, fun a ha b hb => ?_⟩
    rw [List.mem_singleton.mp hb]
    exact (h3 a ha).1 p (Nat.le_refl _) hp
  · intro x hx'
    rcases List.mem_append.mp hx' with a | a
    · exact ⟨fun j j0 j1 => (h3 x a).1 j (by omega) j1, (h3 x a).2⟩
    · rw [List.mem_singleton.mp a]
      refine ⟨fun j j0 j1 => hS.1 p j (by omega) j1, fun j j0 j1 => ?_⟩
      by_cases ej : j = q
      · rw [ej]; exact hx (by omega)
      · exact rle_tr (by rw [rwN_len, rwN_len]) (hx (by omega)) (hS.2 q j (by omega) j1)
  · intro y z hy
    refine Eq.trans ?_ (h4 y z hy)
    by_cases ey : y = s
    · subst ey; exact up2_k _ _ _ _ (by omega)
    · exact up2_o _ _ _ _ ey
theorem MgI.right {T : IT} {c w o s f m e p q : Nat} (h : MgI I T c w o s f m e p q) (hS : MgS I c w o f m e) (hfm : f ≤ m ∧ m ≤ e) (hq : q < e - m) (hx : p < m - f → rle (rwN I c w (I o ((m : Int) + q))) (rwN I c w (I o ((f : Int) + p)))) : MgI I (up2 T s ((f : Int) + ((p + q : Nat) : Int)) (I o ((m : Int) + q))) c w o s f m e p (q + 1) := by
  obtain ⟨h0, h1, h2, h3, h4⟩ := h
  have er : rowAt (up2 T s ((f : Int) + ((p + q : Nat) : Int)) (I o ((m : Int) + q))) s f (p + (q + 1)) = rowAt T s f (p + q) ++ [I o ((m : Int) + q)] := mg_row (n := p + q)
  unfold MgI
  rw [er, rowAt_succ (w := q)]
  refine ⟨⟨h0.1, by omega⟩, ?_, ?_, ?_, ?_⟩
  · refine (h1.append_right _).trans ?_
    rw [List.append_assoc]
  · rw [List.pairwise_append]
    refine ⟨h2, List.pairwise_singleton _ _, fun a ha b hb => ?_⟩
    rw [List.mem_singleton.mp hb]
    exact (h3 a ha).2 q (Nat.le_refl _) hq
  · intro x hx'
    rcases List.mem_append.mp hx' with a | a
    · exact ⟨(h3 x a).1, fun j j0 j1 => (h3 x a).2 j (by omega) j1⟩
    · rw [List.mem_singleton.mp a]
      refine ⟨fun j j0 j1 => ?_, fun j j0 j1 => hS.2 q j (by omega) j1⟩
      by_cases ej : j = p
      · rw [ej]; exact hx (by omega)
      · exact rle_tr (by rw [rwN_len, rwN_len]) (hx (by omega)) (hS.1 p j (by omega) j1)
  · intro y z hy
    refine Eq.trans ?_ (h4 y z hy)
    by_cases ey : y = s
    · subst ey; exact up2_k _ _ _ _ (by omega)
    · exact up2_o _ _ _ _ ey
theorem rle_no {x y : List Int} (h : ¬ rcp x y ≤ 0) (hl : x.length = y.length) : rle y x := fun z => by
  have := (rcp_spec x y hl).2.mpr z
  omega
theorem sp_Relation_merge {d c o s w n f m e : Nat} (hG : ReW K P d c 5120) (hO : K o = some (100, 512)) (hS : K s = some (100, 512)) (hne : o ≠ s ∧ c ≠ s) (hw : I d 2 = w ∧ w ≤ 10) (hn : n ≤ 512 ∧ e ≤ n) (hfm : f ≤ m ∧ m ≤ e) (hid : ∀ j : Nat, j < n → ∃ i : Nat, I o j = i ∧ i < 512) (hM : MgS I c w o f m e) : Sp m_Relation_merge false (rmv 3 160) (exU K P J (.inl none) (fun T => MgI I T c w o s f m e (m - f) (e - m))) K P J I [vR (some d), vR (some o), vR (some s), vI (f : Int), vI (m : Int), vI (e : Int)] := by
  refine Sp.ofV (by decide) (Or.inr rfl) rfl ?_
  have nd : d ≠ s := fun z => by have := hG.1.symm.trans (z ▸ hS); cases this
  have ceq : ∀ {S : IT} {i : Int}, S c = I c → rowAt S c (i * (w : Int)) w = rwN I c w i := fun h => rowAt_congr (fun q _ _ => by rw [h])
  have loop : ∀ (l p q : Nat) (T : IT), p + q + l = e - f → MgI I T c w o s f m e p q → VW m_Relation_merge false (rmv 3 160) (exU K P J (.inl none) (fun T => MgI I T c w o s f m e (m - f) (e - m))) K P J T 0 0 10 [(0, vR (some d)), (1, vR (some o)), (2, vR (some s)), (3, vI (f : Int)), (4, vI (m : Int)), (5, vI (e : Int)), (6, vI ((f : Int) + (p : Int))), (7, vI ((m : Int) + (q : Int))), (8, vI ((f : Int) + ((p + q : Nat) : Int)))] [] := by
    intro l
    induction l with
    | zero =>
      intro p q T hl h
      have e1 : p = m - f := by have := h.1; omega
      have e2 : q = e - m := by have := h.1; omega
      subst e1 e2
      refine VW.iload (pc' := 12) d_Relation_merge_10 rfl rfl ?_
      refine VW.iload (pc' := 14) d_Relation_merge_12 rfl rfl ?_
      refine VW.icmp_ge (tgt := 78) (pc' := 17) d_Relation_merge_14 rfl rfl (fun c14 => ?_) (fun c14 => ?_)
      · exact VW.vret d_Relation_merge_78 rfl (Nat.zero_le _) (Nat.zero_le _) (⟨rfl, rfl, rfl, rfl, h⟩)
      · exfalso; omega
    | succ l ih =>
      intro p q T hl h
      have hb := h.1
      have to : T o = I o := funext (fun z => h.2.2.2.2 o z (Or.inl hne.1))
      have tc : T c = I c := funext (fun z => h.2.2.2.2 c z (Or.inl hne.2))
      have td : T d 2 = w := (h.2.2.2.2 d 2 (Or.inl nd)).trans hw.1
      have eL : T o ((f : Int) + (p : Int)) = I o ((f : Int) + (p : Int)) := by rw [to]
      have eR : T o ((m : Int) + (q : Int)) = I o ((m : Int) + (q : Int)) := by rw [to]
      have iL : p < m - f → ∃ i : Nat, I o ((f : Int) + (p : Int)) = i ∧ i < 512 := fun z => by
        have := hid (f + p) (by omega)
        rw [show ((f + p : Nat) : Int) = (f : Int) + (p : Int) by omega] at this
        exact this
      have iR : q < e - m → ∃ i : Nat, I o ((m : Int) + (q : Int)) = i ∧ i < 512 := fun z => by
        have := hid (m + q) (by omega)
        rw [show ((m + q : Nat) : Int) = (m : Int) + (q : Int) by omega] at this
        exact this
      have mulL : p < m - f → 0 ≤ I o ((f : Int) + (p : Int)) * (w : Int) ∧ I o ((f : Int) + (p : Int)) * (w : Int) + w ≤ (5120 : Nat) ∧ (5120 : Nat) ≤ 524288 := fun z => by
        obtain ⟨i, h1, h2⟩ := iL z
        have := relMul (w := w) (m := i) hw.2 h2
        rw [h1]; omega
      have mulR : q < e - m → 0 ≤ I o ((m : Int) + (q : Int)) * (w : Int) ∧ I o ((m : Int) + (q : Int)) * (w : Int) + w ≤ (5120 : Nat) ∧ (5120 : Nat) ≤ 524288 := fun z => by
        obtain ⟨i, h1, h2⟩ := iR z
        have := relMul (w := w) (m := i) hw.2 h2
        rw [h1]; omega
      have a1 : (f : Int) + ((p + 1 : Nat) : Int) = (f : Int) + (p : Int) + 1 := by omega
      have a2 : (m : Int) + ((q + 1 : Nat) : Int) = (m : Int) + (q : Int) + 1 := by omega
      have a3 : (f : Int) + ((p + 1 + q : Nat) : Int) = (f : Int) + ((p + q : Nat) : Int) + 1 := by omega
      have a4 : (f : Int) + ((p + (q + 1) : Nat) : Int) = (f : Int) + ((p + q : Nat) : Int) + 1 := by omega
      have goL : p < m - f → (q < e - m → rle (rwN I c w (I o ((f : Int) + (p : Int)))) (rwN I c w (I o ((m : Int) + (q : Int))))) → VW m_Relation_merge false (rmv 3 160) (exU K P J (.inl none) (fun T => MgI I T c w o s f m e (m - f) (e - m))) K P J (up2 T s ((f : Int) + ((p + q : Nat) : Int)) (I o ((f : Int) + (p : Int)))) 0 0 10 [(0, vR (some d)), (1, vR (some o)), (2, vR (some s)), (3, vI (f : Int)), (4, vI (m : Int)), (5, vI (e : Int)), (6, vI ((f : Int) + (p : Int) + 1)), (7, vI ((m : Int) + (q : Int))), (8, vI ((f : Int) + ((p + q : Nat) : Int) + 1))] [] := fun z z2 => by
        have g := ih (p + 1) q _ (by omega) (h.left hM hfm z z2)
        rw [a1, a3] at g; exact g
      have goR : q < e - m → (p < m - f → rle (rwN I c w (I o ((m : Int) + (q : Int)))) (rwN I c w (I o ((f : Int) + (p : Int))))) → VW m_Relation_merge false (rmv 3 160) (exU K P J (.inl none) (fun T => MgI I T c w o s f m e (m - f) (e - m))) K P J (up2 T s ((f : Int) + ((p + q : Nat) : Int)) (I o ((m : Int) + (q : Int)))) 0 0 10 [(0, vR (some d)), (1, vR (some o)), (2, vR (some s)), (3, vI (f : Int)), (4, vI (m : Int)), (5, vI (e : Int)), (6, vI ((f : Int) + (p : Int))), (7, vI ((m : Int) + (q : Int) + 1)), (8, vI ((f : Int) + ((p + q : Nat) : Int) + 1))] [] := fun z z2 => by
        have g := ih p (q + 1) _ (by omega) (h.right hM hfm z z2)
        rw [a2, a4] at g; exact g
      have cmp : rcp (rowAt T c (I o ((f : Int) + (p : Int)) * (w : Int)) w) (rowAt T c (I o ((m : Int) + (q : Int)) * (w : Int)) w) = rcp (rwN I c w (I o ((f : Int) + (p : Int)))) (rwN I c w (I o ((m : Int) + (q : Int)))) := by rw [ceq tc, ceq tc]
      have cle : rcp (rowAt T c (I o ((f : Int) + (p : Int)) * (w : Int)) w) (rowAt T c (I o ((m : Int) + (q : Int)) * (w : Int)) w) ≤ 0 → rle (rwN I c w (I o ((f : Int) + (p : Int)))) (rwN I c w (I o ((m : Int) + (q : Int)))) := fun z => (rcp_le (by rw [rwN_len, rwN_len])).mp (cmp ▸ z)
      have cgt : ¬ rcp (rowAt T c (I o ((f : Int) + (p : Int)) * (w : Int)) w) (rowAt T c (I o ((m : Int) + (q : Int)) * (w : Int)) w) ≤ 0 → rle (rwN I c w (I o ((m : Int) + (q : Int)))) (rwN I c w (I o ((f : Int) + (p : Int)))) := fun z => rle_no (cmp ▸ z) (by rw [rwN_len, rwN_len])
      clear ih cmp iL iR hid
      refine VW.iload (pc' := 12) d_Relation_merge_10 rfl rfl ?_
      refine VW.iload (pc' := 14) d_Relation_merge_12 rfl rfl ?_
      refine VW.icmp_ge (tgt := 78) (pc' := 17) d_Relation_merge_14 rfl rfl (fun c14 => ?_) (fun c14 => ?_)
      · exfalso; omega
      · refine VW.iload (pc' := 19) d_Relation_merge_17 rfl rfl ?_
        refine VW.iload (pc' := 21) d_Relation_merge_19 rfl rfl ?_
        refine VW.icmp_ge (tgt := 47) (pc' := 24) d_Relation_merge_21 rfl rfl (fun c21 => ?_) (fun c21 => ?_)
        · refine VW.aload_n (pc' := 48) d_Relation_merge_47 rfl rfl ?_
          refine VW.iload (pc' := 50) d_Relation_merge_48 rfl rfl ?_
          refine VW.aload_n (pc' := 51) d_Relation_merge_50 rfl rfl ?_
          refine VW.iload (pc' := 53) d_Relation_merge_51 rfl rfl ?_
          refine VW.ild (pc' := 54) d_Relation_merge_53 rfl (by first | exact hG.1 | exact hO | exact hS | assumption) (by omega) (by omega) (eL) ?_
          refine VW.iast (pc' := 55) d_Relation_merge_54 rfl (by first | exact hG.1 | exact hO | exact hS | assumption) (by omega) (by omega) ?_
          refine VW.iinc (pc' := 58) d_Relation_merge_55 rfl rfl rfl (by omega) ?_
          refine VW.goto (pc' := 72) d_Relation_merge_58 rfl ?_
          refine VW.iinc (pc' := 75) d_Relation_merge_72 rfl rfl rfl (by omega) ?_
          refine VW.goto (pc' := 10) d_Relation_merge_75 rfl ?_
          refine VW.pick [0, 1, 2, 3, 4, 5, 6, 7, 8] ?_
          first | exact goL (by omega) (fun z => absurd z (by omega)) | exact goL (by omega) (fun _ => cle (by omega)) | exact goR (by omega) (fun z => absurd z (by omega)) | exact goR (by omega) (fun _ => cgt (by omega))
        · refine VW.iload (pc' := 26) d_Relation_merge_24 rfl rfl ?_
          refine VW.iload (pc' := 28) d_Relation_merge_26 rfl rfl ?_
          refine VW.icmp_ge (tgt := 61) (pc' := 31) d_Relation_merge_28 rfl rfl (fun c28 => ?_) (fun c28 => ?_)
          · refine VW.aload_n (pc' := 62) d_Relation_merge_61 rfl rfl ?_
            refine VW.iload (pc' := 64) d_Relation_merge_62 rfl rfl ?_
            refine VW.aload_n (pc' := 65) d_Relation_merge_64 rfl rfl ?_
            refine VW.iload (pc' := 67) d_Relation_merge_65 rfl rfl ?_
            refine VW.ild (pc' := 68) d_Relation_merge_67 rfl (by first | exact hG.1 | exact hO | exact hS | assumption) (by omega) (by omega) (eR) ?_
            refine VW.iast (pc' := 69) d_Relation_merge_68 rfl (by first | exact hG.1 | exact hO | exact hS | assumption) (by omega) (by omega) ?_
            refine VW.iinc (pc' := 72) d_Relation_merge_69 rfl rfl rfl (by omega) ?_
            refine VW.iinc (pc' := 75) d_Relation_merge_72 rfl rfl rfl (by omega) ?_
            refine VW.goto (pc' := 10) d_Relation_merge_75 rfl ?_
            refine VW.pick [0, 1, 2, 3, 4, 5, 6, 7, 8] ?_
            first | exact goL (by omega) (fun z => absurd z (by omega)) | exact goL (by omega) (fun _ => cle (by omega)) | exact goR (by omega) (fun z => absurd z (by omega)) | exact goR (by omega) (fun _ => cgt (by omega))
          · refine VW.aload_n (pc' := 32) d_Relation_merge_31 rfl rfl ?_
            refine VW.aload_n (pc' := 33) d_Relation_merge_32 rfl rfl ?_
            refine VW.iload (pc' := 35) d_Relation_merge_33 rfl rfl ?_
            refine VW.ild (pc' := 36) d_Relation_merge_35 rfl (by first | exact hG.1 | exact hO | exact hS | assumption) (by omega) (by omega) (eL) ?_
            refine VW.aload_n (pc' := 37) d_Relation_merge_36 rfl rfl ?_
            refine VW.aload_n (pc' := 38) d_Relation_merge_37 rfl rfl ?_
            refine VW.iload (pc' := 40) d_Relation_merge_38 rfl rfl ?_
            refine VW.ild (pc' := 41) d_Relation_merge_40 rfl (by first | exact hG.1 | exact hO | exact hS | assumption) (by omega) (by omega) (eR) ?_
            refine VW.cV (ci := 5) (T := T5) (N := 3) (pc' := 44) d_Relation_merge_41 rfl mv_Relation_compareRows lk_Relation_51 rfl (by first | exact hG.1 | exact hO | exact hS | assumption) rfl rfl rfl (Nat.le_refl _) (Nat.le_refl _) (sp_Relation_compareRows hG hG ⟨td, hw.2⟩ (mulL (by omega)) (mulR (by omega))) rfl rfl ?_
            refine VW.if_gt (tgt := 61) (pc' := 47) d_Relation_merge_44 rfl rfl (fun c44 => ?_) (fun c44 => ?_)
            · refine VW.aload_n (pc' := 62) d_Relation_merge_61 rfl rfl ?_
              refine VW.iload (pc' := 64) d_Relation_merge_62 rfl rfl ?_
              refine VW.aload_n (pc' := 65) d_Relation_merge_64 rfl rfl ?_
              refine VW.iload (pc' := 67) d_Relation_merge_65 rfl rfl ?_
              refine VW.ild (pc' := 68) d_Relation_merge_67 rfl (by first | exact hG.1 | exact hO | exact hS | assumption) (by omega) (by omega) (eR) ?_
              refine VW.iast (pc' := 69) d_Relation_merge_68 rfl (by first | exact hG.1 | exact hO | exact hS | assumption) (by omega) (by omega) ?_
              refine VW.iinc (pc' := 72) d_Relation_merge_69 rfl rfl rfl (by omega) ?_
              refine VW.iinc (pc' := 75) d_Relation_merge_72 rfl rfl rfl (by omega) ?_
              refine VW.goto (pc' := 10) d_Relation_merge_75 rfl ?_
              refine VW.pick [0, 1, 2, 3, 4, 5, 6, 7, 8] ?_
              first | exact goL (by omega) (fun z => absurd z (by omega)) | exact goL (by omega) (fun _ => cle (by omega)) | exact goR (by omega) (fun z => absurd z (by omega)) | exact goR (by omega) (fun _ => cgt (by omega))
            · refine VW.aload_n (pc' := 48) d_Relation_merge_47 rfl rfl ?_
              refine VW.iload (pc' := 50) d_Relation_merge_48 rfl rfl ?_
              refine VW.aload_n (pc' := 51) d_Relation_merge_50 rfl rfl ?_
              refine VW.iload (pc' := 53) d_Relation_merge_51 rfl rfl ?_
              refine VW.ild (pc' := 54) d_Relation_merge_53 rfl (by first | exact hG.1 | exact hO | exact hS | assumption) (by omega) (by omega) (eL) ?_
              refine VW.iast (pc' := 55) d_Relation_merge_54 rfl (by first | exact hG.1 | exact hO | exact hS | assumption) (by omega) (by omega) ?_
              refine VW.iinc (pc' := 58) d_Relation_merge_55 rfl rfl rfl (by omega) ?_
              refine VW.goto (pc' := 72) d_Relation_merge_58 rfl ?_
              refine VW.iinc (pc' := 75) d_Relation_merge_72 rfl rfl rfl (by omega) ?_
              refine VW.goto (pc' := 10) d_Relation_merge_75 rfl ?_
              refine VW.pick [0, 1, 2, 3, 4, 5, 6, 7, 8] ?_
              first | exact goL (by omega) (fun z => absurd z (by omega)) | exact goL (by omega) (fun _ => cle (by omega)) | exact goR (by omega) (fun z => absurd z (by omega)) | exact goR (by omega) (fun _ => cgt (by omega))
  have l := loop (e - f) 0 0 I (by omega) ⟨⟨by omega, by omega⟩, List.Perm.refl _, List.Pairwise.nil, (fun x h => absurd h List.not_mem_nil), fun _ _ _ => rfl⟩
  rw [show (f : Int) + ((0 : Nat) : Int) = f by omega, show (m : Int) + ((0 : Nat) : Int) = m by omega] at l
  clear loop
  refine VW.iload_n (pc' := 1) d_Relation_merge_0 rfl rfl ?_
  refine VW.istore (pc' := 3) d_Relation_merge_1 rfl rfl ?_
  refine VW.iload (pc' := 5) d_Relation_merge_3 rfl rfl ?_
  refine VW.istore (pc' := 7) d_Relation_merge_5 rfl rfl ?_
  refine VW.iload_n (pc' := 8) d_Relation_merge_7 rfl rfl ?_
  refine VW.istore (pc' := 10) d_Relation_merge_8 rfl rfl ?_
  refine VW.nrm ?_
  exact l
end
