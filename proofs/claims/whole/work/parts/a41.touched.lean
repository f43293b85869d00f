section
variable {K : KT} {P : PT} {J I : IT}
/-- rows by table, then key -/
def wle (x y : Int × Int) : Prop := x.1 < y.1 ∨ (x.1 = y.1 ∧ x.2 ≤ y.2)
theorem wle_tr {x y z : Int × Int} (h1 : wle x y) (h2 : wle y z) : wle x z := by
  unfold wle at *
  omega
theorem ins_sorted {L : List (Int × Int)} {t y : Int} {k : Nat} (hlast : k ≤ L.length) (hs : L.Pairwise wle) (ht : ∀ x ∈ L, x.1 ≤ t) (h1 : ∀ j x, k ≤ j → L[j]? = some x → x.1 = t ∧ y < x.2) (h2 : ∀ j x, j + 1 = k → L[j]? = some x → ¬ (x.1 = t ∧ y < x.2)) : (L.take k ++ (t, y) :: L.drop k).Pairwise wle := by
  have hd : ∀ x ∈ L.drop k, wle (t, y) x := fun x hx => by
    obtain ⟨i, hi⟩ := List.mem_iff_getElem?.mp hx
    rw [List.getElem?_drop] at hi
    have := h1 (k + i) x (by omega) hi
    exact Or.inr ⟨this.1.symm, by show y ≤ x.2; omega⟩
  have htk : ∀ x ∈ L.take k, wle x (t, y) := by
    intro x hx
    obtain ⟨i, hi⟩ := List.mem_iff_getElem?.mp hx
    rw [List.getElem?_take] at hi
    by_cases hik : i < k
    · rw [if_pos hik] at hi
      obtain ⟨hil, hix⟩ := List.getElem?_eq_some_iff.mp hi
      have hk1 : k - 1 < L.length := by omega
      have g : L[k - 1]? = some L[k - 1] := List.getElem?_eq_getElem hk1
      have n := h2 (k - 1) _ (by omega) g
      have le1 := ht _ (List.mem_of_getElem? g)
      have w1 : wle L[k - 1] (t, y) := by
        unfold wle
        show _ < t ∨ (_ = t ∧ _ ≤ y)
        omega
      by_cases e : i = k - 1
      · subst e; rw [← hix]; exact w1
      · have := List.pairwise_iff_getElem.mp hs i (k - 1) hil hk1 (by omega)
        rw [hix] at this
        exact wle_tr this w1
    · rw [if_neg hik] at hi; cases hi
  rw [List.pairwise_append, List.pairwise_cons]
  refine ⟨hs.sublist (List.take_sublist _ _), ⟨hd, hs.sublist (List.drop_sublist _ _)⟩, fun a ha b hb => ?_⟩
  rcases List.mem_cons.mp hb with e | hb
  · rw [e]; exact htk a ha
  · exact wle_tr (htk a ha) (hd b hb)
theorem ins_perm {L : List (Int × Int)} {x : Int × Int} {k : Nat} : (L.take k ++ x :: L.drop k).Perm (x :: L) := by
  refine List.perm_middle.trans ?_
  rw [List.take_append_drop]
/-- the rows that are changed, of the first p places -/
noncomputable def chgL (I : IT) (a : Nat) : Nat → List (Int × Int)
  | 0 => []
  | p + 1 => if bI (I 1100 (p : Int) ≠ 0) = 1 then chgL I a p ++ [((p : Int) / 8, I a ((p : Int) * 4))] else chgL I a p
theorem chgL_y {a p : Nat} (h : I 1100 (p : Int) ≠ 0) : chgL I a (p + 1) = chgL I a p ++ [((p : Int) / 8, I a ((p : Int) * 4))] := if_pos (bI1 h)
theorem chgL_n {a p : Nat} (h : I 1100 (p : Int) = 0) : chgL I a (p + 1) = chgL I a p := if_neg (by rw [bI0 (fun z => z h)]; decide)
theorem chgL_mem {a : Nat} {x : Int × Int} : ∀ p : Nat, x ∈ chgL I a p ↔ ∃ q : Nat, q < p ∧ I 1100 (q : Int) ≠ 0 ∧ x = ((q : Int) / 8, I a ((q : Int) * 4)) := by
  intro p
  induction p with
  | zero => exact ⟨fun h => absurd h List.not_mem_nil, fun ⟨q, h, _⟩ => by omega⟩
  | succ p ih =>
    by_cases h : I 1100 (p : Int) = 0
    · rw [chgL_n h, ih]
      exact ⟨fun ⟨q, a, b⟩ => ⟨q, by omega, b⟩, fun ⟨q, a, b, c⟩ => by
        by_cases e : q = p
        · exact absurd (by rw [e]; exact h) b
        · exact ⟨q, by omega, b, c⟩⟩
    · rw [chgL_y h, List.mem_append, List.mem_singleton, ih]
      exact ⟨fun z => z.elim (fun ⟨q, a, b⟩ => ⟨q, by omega, b⟩) (fun e => ⟨p, by omega, h, e⟩), fun ⟨q, a, b, c⟩ => by
        by_cases e : q = p
        · exact Or.inr (by rw [← e]; exact c)
        · exact Or.inl ⟨q, by omega, b, c⟩⟩
theorem chgL_len {a : Nat} : ∀ p : Nat, (chgL I a p).length ≤ p := by
  intro p
  induction p with
  | zero => exact Nat.le_refl _
  | succ p ih =>
    by_cases h : I 1100 (p : Int) = 0
    · rw [chgL_n h]; omega
    · rw [chgL_y h, List.length_append, List.length_singleton]; omega
/-- p places are done -/
def TcI (I T : IT) (a p n : Nat) : Prop := (∀ o, o ≠ 1096 → o ≠ 1102 → o ≠ 1103 → T o = I o) ∧ (∀ z, z ≠ 7 → T 1096 z = I 1096 z) ∧ T 1096 7 = n ∧ (trL T n).Perm (chgL I a p) ∧ (trL T n).Pairwise wle
theorem TcI.n {T : IT} {a p n : Nat} (h : TcI I T a p n) : n ≤ p := by
  have := h.2.2.2.1.length_eq
  rw [trL_len] at this
  have := chgL_len (I := I) (a := a) p
  omega
theorem TcI.step {T T2 : IT} {a p n k : Nat} (h : TcI I T a p n) (hc : I 1100 (p : Int) ≠ 0) (h2 : TchP T T2 n k ((p : Int) / 8) (I a ((p : Int) * 4))) : TcI I T2 a (p + 1) (n + 1) := by
  obtain ⟨a1, a2, a3, a4, a5⟩ := h
  obtain ⟨b1, b2, b3, b4, b5, b6, b7⟩ := h2
  refine ⟨fun o o0 o1 o2 => (b1 o o0 o1 o2).trans (a1 o o0 o1 o2), fun z hz => (b2 z hz).trans (a2 z hz), b3, ?_, ?_⟩
  · rw [b5, chgL_y hc]
    exact ins_perm.trans (((List.Perm.cons _ a4).trans (List.perm_append_singleton _ _).symm))
  · rw [b5]
    have gt : ∀ (j : Nat) (x : Int × Int), (trL T n)[j]? = some x → j < n ∧ x = (T 1102 (j : Int), T 1103 (j : Int)) := fun j x hx => by
      obtain ⟨hl, -⟩ := List.getElem?_eq_some_iff.mp hx
      rw [trL_len] at hl
      rw [trL_get hl] at hx
      exact ⟨hl, (Option.some.inj hx).symm⟩
    refine ins_sorted (by rw [trL_len]; exact b4) a5 (fun x hx => ?_) (fun j x hj hx => ?_) (fun j x hj hx => ?_)
    · obtain ⟨q, q1, -, q3⟩ := (chgL_mem p).mp (a4.mem_iff.mp hx)
      rw [q3]
      show (q : Int) / 8 ≤ (p : Int) / 8
      omega
    · obtain ⟨g1, g2⟩ := gt j x hx
      rw [g2]
      exact b6 j hj g1
    · obtain ⟨g1, g2⟩ := gt j x hx
      rw [g2]
      exact b7 j hj
theorem sp_Trial_touchChanged {r a : Nat} (hC : ClW K P) (hR : RwW K P r a) (ha : a ≠ 1096 ∧ a ≠ 1102 ∧ a ≠ 1103) (h0 : I 1096 7 = 0) : Sp m_Trial_touchChanged false (rmv 1 40) (exU K P J (.inl none) (fun T => ∃ n : Nat, TcI I T a 48 n)) K P J I [vR (some 1096), vR (some r)] := by
  refine Sp.ofV (by decide) (Or.inr rfl) rfl ?_
  have loop : ∀ (w p n : Nat) (T : IT), p + w = 48 → TcI I T a p n → VW m_Trial_touchChanged false (rmv 1 40) (exU K P J (.inl none) (fun T => ∃ n : Nat, TcI I T a 48 n)) K P J T 0 0 2 [(0, vR (some 1096)), (1, vR (some r)), (2, vI (p : Int))] [] := by
    intro w
    induction w with
    | zero =>
      intro p n T hp h
      have ep : p = 48 := by omega
      subst ep
      have fin : ∃ n : Nat, TcI I T a 48 n := ⟨n, h⟩
      refine VW.iload_n (pc' := 3) d_Trial_touchChanged_2 rfl rfl ?_
      refine VW.bipush (pc' := 5) d_Trial_touchChanged_3 rfl (by decide) ?_
      refine VW.icmp_ge (tgt := 36) (pc' := 8) d_Trial_touchChanged_5 rfl rfl (fun c5 => ?_) (fun c5 => ?_)
      case refine_2 => exact absurd c5 (by omega)
      exact VW.vret d_Trial_touchChanged_36 rfl (Nat.zero_le _) (Nat.zero_le _) (⟨rfl, rfl, rfl, rfl, fin⟩)
    | succ w ih =>
      intro p n T hp h
      have hn := h.n
      have e1 : T 1100 (p : Int) = I 1100 (p : Int) := congrFun (h.1 1100 (by decide) (by decide) (by decide)) _
      have ea : T a ((p : Int) * 4) = I a ((p : Int) * 4) := congrFun (h.1 a ha.1 ha.2.1 ha.2.2) _
      have p8 : (p : Int).tdiv 8 = (p : Int) / 8 := Int.tdiv_eq_ediv_of_nonneg (by omega)
      have p1 : ((p + 1 : Nat) : Int) = (p : Int) + 1 := by omega
      by_cases hc : I 1100 (p : Int) = 0
      · have n9 := ih (p + 1) n T (by omega) ⟨h.1, h.2.1, h.2.2.1, by rw [chgL_n hc]; exact h.2.2.2.1, h.2.2.2.2⟩
        rw [p1] at n9
        clear ih
        refine VW.iload_n (pc' := 3) d_Trial_touchChanged_2 rfl rfl ?_
        refine VW.bipush (pc' := 5) d_Trial_touchChanged_3 rfl (by decide) ?_
        refine VW.icmp_ge (tgt := 36) (pc' := 8) d_Trial_touchChanged_5 rfl rfl (fun c5 => ?_) (fun c5 => ?_)
        case refine_1 => exact absurd c5 (by omega)
        refine VW.aload_n (pc' := 9) d_Trial_touchChanged_8 rfl rfl ?_
        refine VW.gP (ci := 9) (T := T9) (N := 8) (k := 3) (k' := 3) (pc' := 12) d_Trial_touchChanged_9 rfl lk_Trial_22 in9 rfl rfl rfl rfl (by first | exact hC.k 13 rfl | exact hC.k 14 rfl | exact hC.k 15 rfl | exact hC.k 16 rfl | exact hC.k 17 rfl | exact hC.k 18 rfl | exact hC.k 19 rfl | exact hC.k 20 rfl | exact hC.k 2 rfl | exact hC.k 3 rfl | exact hC.k 6 rfl | exact hC.k 7 rfl) (by first | exact hC.p 22 rfl | exact hC.p 23 rfl | exact hC.p 24 rfl | exact hC.p 25 rfl | exact hC.p 26 rfl | exact hC.p 27 rfl | exact hC.p 28 rfl | exact hC.p 29 rfl | exact hC.p 9 rfl | exact hC.p 12 rfl | exact hC.p 13 rfl | exact e1 | rfl) ?_
        refine VW.iload_n (pc' := 13) d_Trial_touchChanged_12 rfl rfl ?_
        refine VW.zld (pc' := 14) d_Trial_touchChanged_13 rfl (by first | exact hC.k 13 rfl | exact hC.k 14 rfl | exact hC.k 15 rfl | exact hC.k 16 rfl | exact hC.k 17 rfl | exact hC.k 18 rfl | exact hC.k 19 rfl | exact hC.k 20 rfl | exact hC.k 2 rfl | exact hC.k 3 rfl | exact hC.k 6 rfl | exact hC.k 7 rfl) (by omega) (by omega) (by first | exact hC.p 22 rfl | exact hC.p 23 rfl | exact hC.p 24 rfl | exact hC.p 25 rfl | exact hC.p 26 rfl | exact hC.p 27 rfl | exact hC.p 28 rfl | exact hC.p 29 rfl | exact hC.p 9 rfl | exact hC.p 12 rfl | exact hC.p 13 rfl | exact e1 | rfl) ?_
        refine VW.if_eq (tgt := 30) (pc' := 17) d_Trial_touchChanged_14 rfl rfl (fun c14 => ?_) (fun c14 => ?_)
        case refine_2 => exact absurd c14 (by omega)
        refine VW.iinc (pc' := 33) d_Trial_touchChanged_30 rfl rfl rfl (by omega) ?_
        refine VW.goto (pc' := 2) d_Trial_touchChanged_33 rfl ?_
        refine VW.pick [0, 1, 2] ?_
        exact n9
      · have n9 := fun (T2 : IT) (h2 : ∃ k : Nat, TchP T T2 n k ((p : Int) / 8) (I a ((p : Int) * 4))) => h2.elim (fun k h3 => ih (p + 1) (n + 1) T2 (by omega) (h.step hc h3))
        rw [p1] at n9
        have h7 := h.2.2.1
        clear ih
        refine VW.iload_n (pc' := 3) d_Trial_touchChanged_2 rfl rfl ?_
        refine VW.bipush (pc' := 5) d_Trial_touchChanged_3 rfl (by decide) ?_
        refine VW.icmp_ge (tgt := 36) (pc' := 8) d_Trial_touchChanged_5 rfl rfl (fun c5 => ?_) (fun c5 => ?_)
        case refine_1 => exact absurd c5 (by omega)
        refine VW.aload_n (pc' := 9) d_Trial_touchChanged_8 rfl rfl ?_
        refine VW.gP (ci := 9) (T := T9) (N := 8) (k := 3) (k' := 3) (pc' := 12) d_Trial_touchChanged_9 rfl lk_Trial_22 in9 rfl rfl rfl rfl (by first | exact hC.k 13 rfl | exact hC.k 14 rfl | exact hC.k 15 rfl | exact hC.k 16 rfl | exact hC.k 17 rfl | exact hC.k 18 rfl | exact hC.k 19 rfl | exact hC.k 20 rfl | exact hC.k 2 rfl | exact hC.k 3 rfl | exact hC.k 6 rfl | exact hC.k 7 rfl | exact hR.1) (by first | exact hC.p 22 rfl | exact hC.p 23 rfl | exact hC.p 24 rfl | exact hC.p 25 rfl | exact hC.p 26 rfl | exact hC.p 27 rfl | exact hC.p 28 rfl | exact hC.p 29 rfl | exact hC.p 9 rfl | exact hC.p 12 rfl | exact hC.p 13 rfl | exact e1 | rfl) ?_
        refine VW.iload_n (pc' := 13) d_Trial_touchChanged_12 rfl rfl ?_
        refine VW.zld (pc' := 14) d_Trial_touchChanged_13 rfl (by first | exact hC.k 13 rfl | exact hC.k 14 rfl | exact hC.k 15 rfl | exact hC.k 16 rfl | exact hC.k 17 rfl | exact hC.k 18 rfl | exact hC.k 19 rfl | exact hC.k 20 rfl | exact hC.k 2 rfl | exact hC.k 3 rfl | exact hC.k 6 rfl | exact hC.k 7 rfl | exact hR.1) (by omega) (by omega) (by first | exact hC.p 22 rfl | exact hC.p 23 rfl | exact hC.p 24 rfl | exact hC.p 25 rfl | exact hC.p 26 rfl | exact hC.p 27 rfl | exact hC.p 28 rfl | exact hC.p 29 rfl | exact hC.p 9 rfl | exact hC.p 12 rfl | exact hC.p 13 rfl | exact e1 | rfl) ?_
        refine VW.if_eq (tgt := 30) (pc' := 17) d_Trial_touchChanged_14 rfl rfl (fun c14 => ?_) (fun c14 => ?_)
        case refine_1 => exact absurd c14 (by omega)
        refine VW.aload_n (pc' := 18) d_Trial_touchChanged_17 rfl rfl ?_
        refine VW.iload_n (pc' := 19) d_Trial_touchChanged_18 rfl rfl ?_
        refine VW.bipush (pc' := 21) d_Trial_touchChanged_19 rfl (by decide) ?_
        refine VW.idiv (pc' := 22) d_Trial_touchChanged_21 rfl (by omega) (by omega) ?_
        rw [p8]
        refine VW.aload_n (pc' := 23) d_Trial_touchChanged_22 rfl rfl ?_
        refine VW.iload_n (pc' := 24) d_Trial_touchChanged_23 rfl rfl ?_
        refine VW.cV (ci := 6) (T := T6) (N := 1) (pc' := 27) d_Trial_touchChanged_24 rfl mv_Rows_keyAt lk_Trial_178 rfl (by first | exact hC.k 13 rfl | exact hC.k 14 rfl | exact hC.k 15 rfl | exact hC.k 16 rfl | exact hC.k 17 rfl | exact hC.k 18 rfl | exact hC.k 19 rfl | exact hC.k 20 rfl | exact hC.k 2 rfl | exact hC.k 3 rfl | exact hC.k 6 rfl | exact hC.k 7 rfl | exact hR.1) rfl rfl rfl (Nat.le_refl _) (Nat.le_refl _) (sp_Rows_keyAt hR (by omega)) rfl rfl ?_
        rw [ea]
        refine VW.cVu (ci := 9) (T := T9) (N := 8) (pc' := 30) d_Trial_touchChanged_27 rfl mv_Trial_touch lk_Trial_104 rfl (by first | exact hC.k 13 rfl | exact hC.k 14 rfl | exact hC.k 15 rfl | exact hC.k 16 rfl | exact hC.k 17 rfl | exact hC.k 18 rfl | exact hC.k 19 rfl | exact hC.k 20 rfl | exact hC.k 2 rfl | exact hC.k 3 rfl | exact hC.k 6 rfl | exact hC.k 7 rfl | exact hR.1) rfl rfl rfl (Nat.le_refl _) (Nat.le_refl _) (sp_Trial_touch (n := n) hC ⟨h7, by omega⟩) rfl rfl (fun T2 h2 => ?_)
        refine VW.iinc (pc' := 33) d_Trial_touchChanged_30 rfl rfl rfl (by omega) ?_
        refine VW.goto (pc' := 2) d_Trial_touchChanged_33 rfl ?_
        refine VW.pick [0, 1, 2] ?_
        exact n9 T2 h2
  have l9 := loop 48 0 0 I (by omega) ⟨fun _ _ _ _ => rfl, fun _ _ => rfl, h0, List.Perm.refl _, List.Pairwise.nil⟩
  clear loop
  refine VW.iconst (pc' := 1) d_Trial_touchChanged_0 rfl (by decide) ?_
  refine VW.istore_n (pc' := 2) d_Trial_touchChanged_1 rfl rfl ?_
  refine VW.pick [0, 1, 2] ?_
  exact l9
end
