section
variable {K : KT} {P : PT} {J I : IT}
/-- the rows that a write touches, so far -/
def trL (I : IT) (n : Nat) : List (Int × Int) := (List.range n).map (fun j : Nat => (I 1102 (j : Int), I 1103 (j : Int)))
theorem trL_len {n : Nat} : (trL I n).length = n := by unfold trL; rw [List.length_map, List.length_range]
theorem trL_get {n j : Nat} (h : j < n) : (trL I n)[j]? = some (I 1102 (j : Int), I 1103 (j : Int)) := by
  unfold trL
  rw [List.getElem?_map, List.getElem?_range h]; rfl
/-- a row more, at the place k of n -/
def TchP (I T : IT) (n k : Nat) (t y : Int) : Prop := (∀ o, o ≠ 1096 → o ≠ 1102 → o ≠ 1103 → T o = I o) ∧ (∀ z, z ≠ 7 → T 1096 z = I 1096 z) ∧ T 1096 7 = ((n + 1 : Nat) : Int) ∧ k ≤ n ∧ trL T (n + 1) = (trL I n).take k ++ (t, y) :: (trL I n).drop k ∧ (∀ j : Nat, k ≤ j → j < n → I 1102 (j : Int) = t ∧ y < I 1103 (j : Int)) ∧ ∀ j : Nat, j + 1 = k → ¬ (I 1102 (j : Int) = t ∧ y < I 1103 (j : Int))
/-- those from k on are one place further -/
def TchI (I T : IT) (n k : Nat) (t y : Int) : Prop := (∀ o, o ≠ 1102 → o ≠ 1103 → T o = I o) ∧ k ≤ n ∧ (∀ o, o = 1102 ∨ o = 1103 → (∀ j : Nat, j < k → T o (j : Int) = I o (j : Int)) ∧ ∀ j : Nat, k ≤ j → j < n → T o ((j : Int) + 1) = I o (j : Int)) ∧ ∀ j : Nat, k ≤ j → j < n → I 1102 (j : Int) = t ∧ y < I 1103 (j : Int)
theorem TchI.step {T : IT} {n k : Nat} {t y : Int} (h : TchI I T n (k + 1) t y) (h1 : T 1102 (k : Int) = t) (h2 : y < T 1103 (k : Int)) : TchI I (up2 (up2 T 1102 ((k : Int) + 1) (T 1102 (k : Int))) 1103 ((k : Int) + 1) (T 1103 (k : Int))) n k t y := by
  obtain ⟨a, b, c, d⟩ := h
  have e : ∀ o, o = 1102 ∨ o = 1103 → ∀ z, up2 (up2 T 1102 ((k : Int) + 1) (T 1102 (k : Int))) 1103 ((k : Int) + 1) (T 1103 (k : Int)) o z = if z = (k : Int) + 1 then T o (k : Int) else T o z := fun o ho z => by
    unfold up2
    rcases ho with ho | ho <;> subst ho <;> (by_cases hz : z = (k : Int) + 1) <;> simp [hz]
  refine ⟨fun o o1 o2 => (funext (fun z => (up2_o _ _ _ _ o2).trans (up2_o _ _ _ _ o1))).trans (a o o1 o2), by omega, fun o ho => ⟨fun j hj => ?_, fun j j0 j1 => ?_⟩, fun j j0 j1 => ?_⟩
  · rw [e o ho, if_neg (by omega)]
    exact (c o ho).1 j (by omega)
  · rw [e o ho]
    by_cases ej : j = k
    · rw [if_pos (by omega), ej]
      exact (c o ho).1 k (by omega)
    · rw [if_neg (by omega)]
      exact (c o ho).2 j (by omega) j1
  · by_cases ej : j = k
    · subst ej
      rw [← (c 1102 (Or.inl rfl)).1 j (by omega), ← (c 1103 (Or.inr rfl)).1 j (by omega)]
      exact ⟨h1, h2⟩
    · exact d j (by omega) j1
theorem TchI.fin {T : IT} {n k : Nat} {t y : Int} (hn : I 1096 7 = n) (h : TchI I T n k t y) (hs : ∀ j : Nat, j + 1 = k → ¬ (T 1102 (j : Int) = t ∧ y < T 1103 (j : Int))) : TchP I (up2 (up2 (up2 T 1102 (k : Int) t) 1103 (k : Int) y) 1096 7 ((n : Int) + 1)) n k t y := by
  obtain ⟨a, b, c, d⟩ := h
  refine ⟨fun o o0 o1 o2 => (funext (fun z => (up2_o _ _ _ _ o0).trans ((up2_o _ _ _ _ o2).trans (up2_o _ _ _ _ o1)))).trans (a o o1 o2), fun z hz => (up2_k _ _ _ _ hz).trans ((up2_o _ _ _ _ (by decide)).trans ((up2_o _ _ _ _ (by decide)).trans (congrFun (a 1096 (by decide) (by decide)) z))), (up2_eq _ _ _ _).trans (by omega), b, ?_, d, fun j hj => ?_⟩
  · apply List.ext_getElem?
    intro j
    have ga : ∀ o, o = 1102 ∨ o = 1103 → ∀ z : Int, up2 (up2 (up2 T 1102 (k : Int) t) 1103 (k : Int) y) 1096 7 ((n : Int) + 1) o z = if z = k then (if o = 1102 then t else y) else T o z := fun o ho z => by
      unfold up2
      rcases ho with ho | ho <;> subst ho <;> (by_cases hz : z = k) <;> simp [hz]
    have tl : ((trL I n).take k).length = k := by rw [List.length_take, trL_len]; omega
    by_cases hj : j < n + 1
    · rw [trL_get hj, ga 1102 (Or.inl rfl), ga 1103 (Or.inr rfl)]
      by_cases h1 : j < k
      · rw [List.getElem?_append_left (by omega), List.getElem?_take, if_pos h1, trL_get (by omega), if_neg (by omega), if_neg (by omega), (c 1102 (Or.inl rfl)).1 j h1, (c 1103 (Or.inr rfl)).1 j h1]
      · rw [List.getElem?_append_right (by omega), tl]
        by_cases h2 : j = k
        · subst h2
          rw [Nat.sub_self, if_pos rfl, if_pos rfl, if_pos rfl, if_neg (show ¬ (1103 = 1102) by decide)]
          rfl
        · obtain ⟨q, rfl⟩ : ∃ q, j = q + 1 := ⟨j - 1, by omega⟩
          rw [if_neg (by omega), if_neg (by omega), show q + 1 - k = (q - k) + 1 by omega, List.getElem?_cons_succ, List.getElem?_drop, show k + (q - k) = q by omega, trL_get (by omega)]
          rw [show ((q + 1 : Nat) : Int) = (q : Int) + 1 by omega, (c 1102 (Or.inl rfl)).2 q (by omega) (by omega), (c 1103 (Or.inr rfl)).2 q (by omega) (by omega)]
    · rw [List.getElem?_eq_none (by rw [trL_len]; omega), List.getElem?_eq_none]
      rw [List.length_append, tl, List.length_cons, List.length_drop, trL_len]; omega
  · have := hs j hj
    rw [(c 1102 (Or.inl rfl)).1 j (by omega), (c 1103 (Or.inr rfl)).1 j (by omega)] at this
    exact this
theorem sp_Trial_touch {n : Nat} {t y : Int} (hC : ClW K P) (hn : I 1096 7 = n ∧ n < 48) : Sp m_Trial_touch false (rmv 0 0) (exU K P J (.inl none) (fun T => ∃ k : Nat, TchP I T n k t y)) K P J I [vR (some 1096), vI t, vI y] := by
  refine Sp.ofV (by decide) (Or.inr rfl) rfl ?_
  have fin : ∀ (k : Nat) (T : IT), TchI I T n k t y → (∀ j : Nat, j + 1 = k → ¬ (T 1102 (j : Int) = t ∧ y < T 1103 (j : Int))) → VW m_Trial_touch false (rmv 0 0) (exU K P J (.inl none) (fun T => ∃ k : Nat, TchP I T n k t y)) K P J T 0 0 81 [(0, vR (some 1096)), (1, vI t), (2, vI y), (3, vI (k : Int))] [] := by
    intro k T h hs
    have f9 := h.fin hn.1 hs
    have hk := h.2.1
    have e7 : up2 (up2 T 1102 (k : Int) t) 1103 (k : Int) y 1096 7 = n := (up2_o _ _ _ _ (by decide)).trans ((up2_o _ _ _ _ (by decide)).trans ((congrFun (h.1 1096 (by decide) (by decide)) 7).trans hn.1))
    have res : ∃ k2 : Nat, TchP I (up2 (up2 (up2 T 1102 (k : Int) t) 1103 (k : Int) y) 1096 7 ((n : Int) + 1)) n k2 t y := ⟨k, f9⟩
    clear f9 h hs
    refine VW.aload_n (pc' := 82) d_Trial_touch_81 rfl rfl ?_
    refine VW.gP (ci := 9) (T := T9) (N := 8) (k := 5) (k' := 5) (pc' := 85) d_Trial_touch_82 rfl lk_Trial_29 in9 rfl rfl rfl rfl (by first | exact hC.k 13 rfl | exact hC.k 14 rfl | exact hC.k 15 rfl | exact hC.k 16 rfl | exact hC.k 17 rfl | exact hC.k 18 rfl | exact hC.k 19 rfl | exact hC.k 20 rfl | exact hC.k 2 rfl | exact hC.k 3 rfl | exact hC.k 6 rfl | exact hC.k 7 rfl) (by first | exact hC.p 22 rfl | exact hC.p 23 rfl | exact hC.p 24 rfl | exact hC.p 25 rfl | exact hC.p 26 rfl | exact hC.p 27 rfl | exact hC.p 28 rfl | exact hC.p 29 rfl | exact hC.p 9 rfl | exact hC.p 12 rfl | exact hC.p 13 rfl | exact e7 | rfl) ?_
    refine VW.iload_n (pc' := 86) d_Trial_touch_85 rfl rfl ?_
    refine VW.iload_n (pc' := 87) d_Trial_touch_86 rfl rfl ?_
    refine VW.iast (pc' := 88) d_Trial_touch_87 rfl (by first | exact hC.k 13 rfl | exact hC.k 14 rfl | exact hC.k 15 rfl | exact hC.k 16 rfl | exact hC.k 17 rfl | exact hC.k 18 rfl | exact hC.k 19 rfl | exact hC.k 20 rfl | exact hC.k 2 rfl | exact hC.k 3 rfl | exact hC.k 6 rfl | exact hC.k 7 rfl) (by omega) (by omega) ?_
    refine VW.aload_n (pc' := 89) d_Trial_touch_88 rfl rfl ?_
    refine VW.gP (ci := 9) (T := T9) (N := 8) (k := 6) (k' := 6) (pc' := 92) d_Trial_touch_89 rfl lk_Trial_32 in9 rfl rfl rfl rfl (by first | exact hC.k 13 rfl | exact hC.k 14 rfl | exact hC.k 15 rfl | exact hC.k 16 rfl | exact hC.k 17 rfl | exact hC.k 18 rfl | exact hC.k 19 rfl | exact hC.k 20 rfl | exact hC.k 2 rfl | exact hC.k 3 rfl | exact hC.k 6 rfl | exact hC.k 7 rfl) (by first | exact hC.p 22 rfl | exact hC.p 23 rfl | exact hC.p 24 rfl | exact hC.p 25 rfl | exact hC.p 26 rfl | exact hC.p 27 rfl | exact hC.p 28 rfl | exact hC.p 29 rfl | exact hC.p 9 rfl | exact hC.p 12 rfl | exact hC.p 13 rfl | exact e7 | rfl) ?_
    refine VW.iload_n (pc' := 93) d_Trial_touch_92 rfl rfl ?_
    refine VW.iload_n (pc' := 94) d_Trial_touch_93 rfl rfl ?_
    refine VW.iast (pc' := 95) d_Trial_touch_94 rfl (by first | exact hC.k 13 rfl | exact hC.k 14 rfl | exact hC.k 15 rfl | exact hC.k 16 rfl | exact hC.k 17 rfl | exact hC.k 18 rfl | exact hC.k 19 rfl | exact hC.k 20 rfl | exact hC.k 2 rfl | exact hC.k 3 rfl | exact hC.k 6 rfl | exact hC.k 7 rfl) (by omega) (by omega) ?_
    refine VW.aload_n (pc' := 96) d_Trial_touch_95 rfl rfl ?_
    refine VW.dup (pc' := 97) d_Trial_touch_96 rfl rfl ?_
    refine VW.gI (ci := 9) (T := T9) (N := 8) (k := 7) (k' := 7) (pc' := 100) d_Trial_touch_97 rfl lk_Trial_48 in9 rfl rfl rfl rfl (by first | exact hC.k 13 rfl | exact hC.k 14 rfl | exact hC.k 15 rfl | exact hC.k 16 rfl | exact hC.k 17 rfl | exact hC.k 18 rfl | exact hC.k 19 rfl | exact hC.k 20 rfl | exact hC.k 2 rfl | exact hC.k 3 rfl | exact hC.k 6 rfl | exact hC.k 7 rfl) (by first | exact hC.p 22 rfl | exact hC.p 23 rfl | exact hC.p 24 rfl | exact hC.p 25 rfl | exact hC.p 26 rfl | exact hC.p 27 rfl | exact hC.p 28 rfl | exact hC.p 29 rfl | exact hC.p 9 rfl | exact hC.p 12 rfl | exact hC.p 13 rfl | exact e7 | rfl) ?_
    refine VW.iconst (pc' := 101) d_Trial_touch_100 rfl (by decide) ?_
    refine VW.iadd (pc' := 102) d_Trial_touch_101 rfl (by omega) ?_
    refine VW.pI (ci := 9) (T := T9) (N := 8) (k := 7) (k' := 7) (ty := ty9) (pc' := 105) d_Trial_touch_102 rfl lk_Trial_48 in9 tk9 nm9 rfl rfl rfl rfl rfl rfl (by first | exact hC.k 13 rfl | exact hC.k 14 rfl | exact hC.k 15 rfl | exact hC.k 16 rfl | exact hC.k 17 rfl | exact hC.k 18 rfl | exact hC.k 19 rfl | exact hC.k 20 rfl | exact hC.k 2 rfl | exact hC.k 3 rfl | exact hC.k 6 rfl | exact hC.k 7 rfl) ?_
    exact VW.vret d_Trial_touch_105 rfl (Nat.zero_le _) (Nat.zero_le _) (⟨rfl, rfl, rfl, rfl, res⟩)
  have loop : ∀ (k : Nat) (T : IT), TchI I T n k t y → VW m_Trial_touch false (rmv 0 0) (exU K P J (.inl none) (fun T => ∃ k : Nat, TchP I T n k t y)) K P J T 0 0 13 [(0, vR (some 1096)), (1, vI t), (2, vI y), (3, vI (k : Int)), (4, vI ((k : Int) - 1))] [] := by
    intro k
    induction k with
    | zero =>
      intro T h
      have f9 := fin 0 T h (fun j hj => by omega)
      clear fin
      refine VW.iload (pc' := 15) d_Trial_touch_13 rfl rfl ?_
      refine VW.if_lt (tgt := 81) (pc' := 18) d_Trial_touch_15 rfl rfl (fun c15 => ?_) (fun c15 => ?_)
      case refine_2 => exact absurd c15 (by omega)
      refine VW.pick [0, 1, 2, 3] ?_
      exact f9
    | succ k ih =>
      intro T h
      have hk := h.2.1
      have ek : ((k + 1 : Nat) : Int) - 1 = k := by omega
      have ek2 : ((k + 1 : Nat) : Int) = (k : Int) + 1 := by omega
      by_cases hw : T 1102 (k : Int) = t ∧ y < T 1103 (k : Int)
      · have n9 := ih _ (h.step hw.1 hw.2)
        have h3 : up2 T 1102 ((k : Int) + 1) (T 1102 (k : Int)) 1103 (k : Int) = T 1103 (k : Int) := up2_o _ _ _ _ (by decide)
        rw [ek]
        clear ih fin h
        obtain ⟨w1, w2⟩ := hw
        have k48 : (k : Int) + 1 < 48 := by omega
        refine VW.iload (pc' := 15) d_Trial_touch_13 rfl rfl ?_
        refine VW.if_lt (tgt := 81) (pc' := 18) d_Trial_touch_15 rfl rfl (fun c15 => ?_) (fun c15 => ?_)
        case refine_1 => exact absurd c15 (by omega)
        refine VW.aload_n (pc' := 19) d_Trial_touch_18 rfl rfl ?_
        refine VW.gP (ci := 9) (T := T9) (N := 8) (k := 5) (k' := 5) (pc' := 22) d_Trial_touch_19 rfl lk_Trial_29 in9 rfl rfl rfl rfl (by first | exact hC.k 13 rfl | exact hC.k 14 rfl | exact hC.k 15 rfl | exact hC.k 16 rfl | exact hC.k 17 rfl | exact hC.k 18 rfl | exact hC.k 19 rfl | exact hC.k 20 rfl | exact hC.k 2 rfl | exact hC.k 3 rfl | exact hC.k 6 rfl | exact hC.k 7 rfl) (by first | exact hC.p 22 rfl | exact hC.p 23 rfl | exact hC.p 24 rfl | exact hC.p 25 rfl | exact hC.p 26 rfl | exact hC.p 27 rfl | exact hC.p 28 rfl | exact hC.p 29 rfl | exact hC.p 9 rfl | exact hC.p 12 rfl | exact hC.p 13 rfl | exact h3 | rfl) ?_
        refine VW.iload (pc' := 24) d_Trial_touch_22 rfl rfl ?_
        refine VW.ild (pc' := 25) d_Trial_touch_24 rfl (by first | exact hC.k 13 rfl | exact hC.k 14 rfl | exact hC.k 15 rfl | exact hC.k 16 rfl | exact hC.k 17 rfl | exact hC.k 18 rfl | exact hC.k 19 rfl | exact hC.k 20 rfl | exact hC.k 2 rfl | exact hC.k 3 rfl | exact hC.k 6 rfl | exact hC.k 7 rfl) (by omega) (by omega) (by first | exact hC.p 22 rfl | exact hC.p 23 rfl | exact hC.p 24 rfl | exact hC.p 25 rfl | exact hC.p 26 rfl | exact hC.p 27 rfl | exact hC.p 28 rfl | exact hC.p 29 rfl | exact hC.p 9 rfl | exact hC.p 12 rfl | exact hC.p 13 rfl | exact h3 | rfl) ?_
        refine VW.iload_n (pc' := 26) d_Trial_touch_25 rfl rfl ?_
        refine VW.icmp_ne (tgt := 81) (pc' := 29) d_Trial_touch_26 rfl rfl (fun c26 => ?_) (fun c26 => ?_)
        case refine_1 => exact absurd c26 (by omega)
        refine VW.aload_n (pc' := 30) d_Trial_touch_29 rfl rfl ?_
        refine VW.gP (ci := 9) (T := T9) (N := 8) (k := 6) (k' := 6) (pc' := 33) d_Trial_touch_30 rfl lk_Trial_32 in9 rfl rfl rfl rfl (by first | exact hC.k 13 rfl | exact hC.k 14 rfl | exact hC.k 15 rfl | exact hC.k 16 rfl | exact hC.k 17 rfl | exact hC.k 18 rfl | exact hC.k 19 rfl | exact hC.k 20 rfl | exact hC.k 2 rfl | exact hC.k 3 rfl | exact hC.k 6 rfl | exact hC.k 7 rfl) (by first | exact hC.p 22 rfl | exact hC.p 23 rfl | exact hC.p 24 rfl | exact hC.p 25 rfl | exact hC.p 26 rfl | exact hC.p 27 rfl | exact hC.p 28 rfl | exact hC.p 29 rfl | exact hC.p 9 rfl | exact hC.p 12 rfl | exact hC.p 13 rfl | exact h3 | rfl) ?_
        refine VW.iload (pc' := 35) d_Trial_touch_33 rfl rfl ?_
        refine VW.ild (pc' := 36) d_Trial_touch_35 rfl (by first | exact hC.k 13 rfl | exact hC.k 14 rfl | exact hC.k 15 rfl | exact hC.k 16 rfl | exact hC.k 17 rfl | exact hC.k 18 rfl | exact hC.k 19 rfl | exact hC.k 20 rfl | exact hC.k 2 rfl | exact hC.k 3 rfl | exact hC.k 6 rfl | exact hC.k 7 rfl) (by omega) (by omega) (by first | exact hC.p 22 rfl | exact hC.p 23 rfl | exact hC.p 24 rfl | exact hC.p 25 rfl | exact hC.p 26 rfl | exact hC.p 27 rfl | exact hC.p 28 rfl | exact hC.p 29 rfl | exact hC.p 9 rfl | exact hC.p 12 rfl | exact hC.p 13 rfl | exact h3 | rfl) ?_
        refine VW.iload_n (pc' := 37) d_Trial_touch_36 rfl rfl ?_
        refine VW.icmp_le (tgt := 81) (pc' := 40) d_Trial_touch_37 rfl rfl (fun c37 => ?_) (fun c37 => ?_)
        case refine_1 => exact absurd c37 (by omega)
        refine VW.aload_n (pc' := 41) d_Trial_touch_40 rfl rfl ?_
        refine VW.gP (ci := 9) (T := T9) (N := 8) (k := 5) (k' := 5) (pc' := 44) d_Trial_touch_41 rfl lk_Trial_29 in9 rfl rfl rfl rfl (by first | exact hC.k 13 rfl | exact hC.k 14 rfl | exact hC.k 15 rfl | exact hC.k 16 rfl | exact hC.k 17 rfl | exact hC.k 18 rfl | exact hC.k 19 rfl | exact hC.k 20 rfl | exact hC.k 2 rfl | exact hC.k 3 rfl | exact hC.k 6 rfl | exact hC.k 7 rfl) (by first | exact hC.p 22 rfl | exact hC.p 23 rfl | exact hC.p 24 rfl | exact hC.p 25 rfl | exact hC.p 26 rfl | exact hC.p 27 rfl | exact hC.p 28 rfl | exact hC.p 29 rfl | exact hC.p 9 rfl | exact hC.p 12 rfl | exact hC.p 13 rfl | exact h3 | rfl) ?_
        refine VW.iload (pc' := 46) d_Trial_touch_44 rfl rfl ?_
        refine VW.iconst (pc' := 47) d_Trial_touch_46 rfl (by decide) ?_
        refine VW.iadd (pc' := 48) d_Trial_touch_47 rfl (by omega) ?_
        refine VW.aload_n (pc' := 49) d_Trial_touch_48 rfl rfl ?_
        refine VW.gP (ci := 9) (T := T9) (N := 8) (k := 5) (k' := 5) (pc' := 52) d_Trial_touch_49 rfl lk_Trial_29 in9 rfl rfl rfl rfl (by first | exact hC.k 13 rfl | exact hC.k 14 rfl | exact hC.k 15 rfl | exact hC.k 16 rfl | exact hC.k 17 rfl | exact hC.k 18 rfl | exact hC.k 19 rfl | exact hC.k 20 rfl | exact hC.k 2 rfl | exact hC.k 3 rfl | exact hC.k 6 rfl | exact hC.k 7 rfl) (by first | exact hC.p 22 rfl | exact hC.p 23 rfl | exact hC.p 24 rfl | exact hC.p 25 rfl | exact hC.p 26 rfl | exact hC.p 27 rfl | exact hC.p 28 rfl | exact hC.p 29 rfl | exact hC.p 9 rfl | exact hC.p 12 rfl | exact hC.p 13 rfl | exact h3 | rfl) ?_
        refine VW.iload (pc' := 54) d_Trial_touch_52 rfl rfl ?_
        refine VW.ild (pc' := 55) d_Trial_touch_54 rfl (by first | exact hC.k 13 rfl | exact hC.k 14 rfl | exact hC.k 15 rfl | exact hC.k 16 rfl | exact hC.k 17 rfl | exact hC.k 18 rfl | exact hC.k 19 rfl | exact hC.k 20 rfl | exact hC.k 2 rfl | exact hC.k 3 rfl | exact hC.k 6 rfl | exact hC.k 7 rfl) (by omega) (by omega) (by first | exact hC.p 22 rfl | exact hC.p 23 rfl | exact hC.p 24 rfl | exact hC.p 25 rfl | exact hC.p 26 rfl | exact hC.p 27 rfl | exact hC.p 28 rfl | exact hC.p 29 rfl | exact hC.p 9 rfl | exact hC.p 12 rfl | exact hC.p 13 rfl | exact h3 | rfl) ?_
        refine VW.iast (pc' := 56) d_Trial_touch_55 rfl (by first | exact hC.k 13 rfl | exact hC.k 14 rfl | exact hC.k 15 rfl | exact hC.k 16 rfl | exact hC.k 17 rfl | exact hC.k 18 rfl | exact hC.k 19 rfl | exact hC.k 20 rfl | exact hC.k 2 rfl | exact hC.k 3 rfl | exact hC.k 6 rfl | exact hC.k 7 rfl) (by omega) (by omega) ?_
        refine VW.aload_n (pc' := 57) d_Trial_touch_56 rfl rfl ?_
        refine VW.gP (ci := 9) (T := T9) (N := 8) (k := 6) (k' := 6) (pc' := 60) d_Trial_touch_57 rfl lk_Trial_32 in9 rfl rfl rfl rfl (by first | exact hC.k 13 rfl | exact hC.k 14 rfl | exact hC.k 15 rfl | exact hC.k 16 rfl | exact hC.k 17 rfl | exact hC.k 18 rfl | exact hC.k 19 rfl | exact hC.k 20 rfl | exact hC.k 2 rfl | exact hC.k 3 rfl | exact hC.k 6 rfl | exact hC.k 7 rfl) (by first | exact hC.p 22 rfl | exact hC.p 23 rfl | exact hC.p 24 rfl | exact hC.p 25 rfl | exact hC.p 26 rfl | exact hC.p 27 rfl | exact hC.p 28 rfl | exact hC.p 29 rfl | exact hC.p 9 rfl | exact hC.p 12 rfl | exact hC.p 13 rfl | exact h3 | rfl) ?_
        refine VW.iload (pc' := 62) d_Trial_touch_60 rfl rfl ?_
        refine VW.iconst (pc' := 63) d_Trial_touch_62 rfl (by decide) ?_
        refine VW.iadd (pc' := 64) d_Trial_touch_63 rfl (by omega) ?_
        refine VW.aload_n (pc' := 65) d_Trial_touch_64 rfl rfl ?_
        refine VW.gP (ci := 9) (T := T9) (N := 8) (k := 6) (k' := 6) (pc' := 68) d_Trial_touch_65 rfl lk_Trial_32 in9 rfl rfl rfl rfl (by first | exact hC.k 13 rfl | exact hC.k 14 rfl | exact hC.k 15 rfl | exact hC.k 16 rfl | exact hC.k 17 rfl | exact hC.k 18 rfl | exact hC.k 19 rfl | exact hC.k 20 rfl | exact hC.k 2 rfl | exact hC.k 3 rfl | exact hC.k 6 rfl | exact hC.k 7 rfl) (by first | exact hC.p 22 rfl | exact hC.p 23 rfl | exact hC.p 24 rfl | exact hC.p 25 rfl | exact hC.p 26 rfl | exact hC.p 27 rfl | exact hC.p 28 rfl | exact hC.p 29 rfl | exact hC.p 9 rfl | exact hC.p 12 rfl | exact hC.p 13 rfl | exact h3 | rfl) ?_
        refine VW.iload (pc' := 70) d_Trial_touch_68 rfl rfl ?_
        refine VW.ild (pc' := 71) d_Trial_touch_70 rfl (by first | exact hC.k 13 rfl | exact hC.k 14 rfl | exact hC.k 15 rfl | exact hC.k 16 rfl | exact hC.k 17 rfl | exact hC.k 18 rfl | exact hC.k 19 rfl | exact hC.k 20 rfl | exact hC.k 2 rfl | exact hC.k 3 rfl | exact hC.k 6 rfl | exact hC.k 7 rfl) (by omega) (by omega) (by first | exact hC.p 22 rfl | exact hC.p 23 rfl | exact hC.p 24 rfl | exact hC.p 25 rfl | exact hC.p 26 rfl | exact hC.p 27 rfl | exact hC.p 28 rfl | exact hC.p 29 rfl | exact hC.p 9 rfl | exact hC.p 12 rfl | exact hC.p 13 rfl | exact h3 | rfl) ?_
        refine VW.iast (pc' := 72) d_Trial_touch_71 rfl (by first | exact hC.k 13 rfl | exact hC.k 14 rfl | exact hC.k 15 rfl | exact hC.k 16 rfl | exact hC.k 17 rfl | exact hC.k 18 rfl | exact hC.k 19 rfl | exact hC.k 20 rfl | exact hC.k 2 rfl | exact hC.k 3 rfl | exact hC.k 6 rfl | exact hC.k 7 rfl) (by omega) (by omega) ?_
        refine VW.iload (pc' := 74) d_Trial_touch_72 rfl rfl ?_
        refine VW.istore_n (pc' := 75) d_Trial_touch_74 rfl rfl ?_
        refine VW.iinc (pc' := 78) d_Trial_touch_75 rfl rfl rfl (by omega) ?_
        refine VW.goto (pc' := 13) d_Trial_touch_78 rfl ?_
        refine VW.pick [0, 1, 2, 3, 4] ?_
        exact n9
      · have f9 := fin (k + 1) T h (fun j hj => by
          have e : j = k := by omega
          rw [e]; exact hw)
        rw [ek]
        rw [ek2] at f9 ⊢
        clear ih fin h
        have k48 : (k : Int) < 48 := by omega
        by_cases w1 : T 1102 (k : Int) = t
        · have w2 : ¬ y < T 1103 (k : Int) := fun z => hw ⟨w1, z⟩
          clear hw
          refine VW.iload (pc' := 15) d_Trial_touch_13 rfl rfl ?_
          refine VW.if_lt (tgt := 81) (pc' := 18) d_Trial_touch_15 rfl rfl (fun c15 => ?_) (fun c15 => ?_)
          case refine_1 => exact absurd c15 (by omega)
          refine VW.aload_n (pc' := 19) d_Trial_touch_18 rfl rfl ?_
          refine VW.gP (ci := 9) (T := T9) (N := 8) (k := 5) (k' := 5) (pc' := 22) d_Trial_touch_19 rfl lk_Trial_29 in9 rfl rfl rfl rfl (by first | exact hC.k 13 rfl | exact hC.k 14 rfl | exact hC.k 15 rfl | exact hC.k 16 rfl | exact hC.k 17 rfl | exact hC.k 18 rfl | exact hC.k 19 rfl | exact hC.k 20 rfl | exact hC.k 2 rfl | exact hC.k 3 rfl | exact hC.k 6 rfl | exact hC.k 7 rfl) (by first | exact hC.p 22 rfl | exact hC.p 23 rfl | exact hC.p 24 rfl | exact hC.p 25 rfl | exact hC.p 26 rfl | exact hC.p 27 rfl | exact hC.p 28 rfl | exact hC.p 29 rfl | exact hC.p 9 rfl | exact hC.p 12 rfl | exact hC.p 13 rfl | rfl) ?_
          refine VW.iload (pc' := 24) d_Trial_touch_22 rfl rfl ?_
          refine VW.ild (pc' := 25) d_Trial_touch_24 rfl (by first | exact hC.k 13 rfl | exact hC.k 14 rfl | exact hC.k 15 rfl | exact hC.k 16 rfl | exact hC.k 17 rfl | exact hC.k 18 rfl | exact hC.k 19 rfl | exact hC.k 20 rfl | exact hC.k 2 rfl | exact hC.k 3 rfl | exact hC.k 6 rfl | exact hC.k 7 rfl) (by omega) (by omega) (by first | exact hC.p 22 rfl | exact hC.p 23 rfl | exact hC.p 24 rfl | exact hC.p 25 rfl | exact hC.p 26 rfl | exact hC.p 27 rfl | exact hC.p 28 rfl | exact hC.p 29 rfl | exact hC.p 9 rfl | exact hC.p 12 rfl | exact hC.p 13 rfl | rfl) ?_
          refine VW.iload_n (pc' := 26) d_Trial_touch_25 rfl rfl ?_
          refine VW.icmp_ne (tgt := 81) (pc' := 29) d_Trial_touch_26 rfl rfl (fun c26 => ?_) (fun c26 => ?_)
          case refine_1 => exact absurd c26 (by omega)
          refine VW.aload_n (pc' := 30) d_Trial_touch_29 rfl rfl ?_
          refine VW.gP (ci := 9) (T := T9) (N := 8) (k := 6) (k' := 6) (pc' := 33) d_Trial_touch_30 rfl lk_Trial_32 in9 rfl rfl rfl rfl (by first | exact hC.k 13 rfl | exact hC.k 14 rfl | exact hC.k 15 rfl | exact hC.k 16 rfl | exact hC.k 17 rfl | exact hC.k 18 rfl | exact hC.k 19 rfl | exact hC.k 20 rfl | exact hC.k 2 rfl | exact hC.k 3 rfl | exact hC.k 6 rfl | exact hC.k 7 rfl) (by first | exact hC.p 22 rfl | exact hC.p 23 rfl | exact hC.p 24 rfl | exact hC.p 25 rfl | exact hC.p 26 rfl | exact hC.p 27 rfl | exact hC.p 28 rfl | exact hC.p 29 rfl | exact hC.p 9 rfl | exact hC.p 12 rfl | exact hC.p 13 rfl | rfl) ?_
          refine VW.iload (pc' := 35) d_Trial_touch_33 rfl rfl ?_
          refine VW.ild (pc' := 36) d_Trial_touch_35 rfl (by first | exact hC.k 13 rfl | exact hC.k 14 rfl | exact hC.k 15 rfl | exact hC.k 16 rfl | exact hC.k 17 rfl | exact hC.k 18 rfl | exact hC.k 19 rfl | exact hC.k 20 rfl | exact hC.k 2 rfl | exact hC.k 3 rfl | exact hC.k 6 rfl | exact hC.k 7 rfl) (by omega) (by omega) (by first | exact hC.p 22 rfl | exact hC.p 23 rfl | exact hC.p 24 rfl | exact hC.p 25 rfl | exact hC.p 26 rfl | exact hC.p 27 rfl | exact hC.p 28 rfl | exact hC.p 29 rfl | exact hC.p 9 rfl | exact hC.p 12 rfl | exact hC.p 13 rfl | rfl) ?_
          refine VW.iload_n (pc' := 37) d_Trial_touch_36 rfl rfl ?_
          refine VW.icmp_le (tgt := 81) (pc' := 40) d_Trial_touch_37 rfl rfl (fun c37 => ?_) (fun c37 => ?_)
          case refine_2 => exact absurd c37 (by omega)
          refine VW.pick [0, 1, 2, 3] ?_
          exact f9
        · clear hw
          refine VW.iload (pc' := 15) d_Trial_touch_13 rfl rfl ?_
          refine VW.if_lt (tgt := 81) (pc' := 18) d_Trial_touch_15 rfl rfl (fun c15 => ?_) (fun c15 => ?_)
          case refine_1 => exact absurd c15 (by omega)
          refine VW.aload_n (pc' := 19) d_Trial_touch_18 rfl rfl ?_
          refine VW.gP (ci := 9) (T := T9) (N := 8) (k := 5) (k' := 5) (pc' := 22) d_Trial_touch_19 rfl lk_Trial_29 in9 rfl rfl rfl rfl (by first | exact hC.k 13 rfl | exact hC.k 14 rfl | exact hC.k 15 rfl | exact hC.k 16 rfl | exact hC.k 17 rfl | exact hC.k 18 rfl | exact hC.k 19 rfl | exact hC.k 20 rfl | exact hC.k 2 rfl | exact hC.k 3 rfl | exact hC.k 6 rfl | exact hC.k 7 rfl) (by first | exact hC.p 22 rfl | exact hC.p 23 rfl | exact hC.p 24 rfl | exact hC.p 25 rfl | exact hC.p 26 rfl | exact hC.p 27 rfl | exact hC.p 28 rfl | exact hC.p 29 rfl | exact hC.p 9 rfl | exact hC.p 12 rfl | exact hC.p 13 rfl | rfl) ?_
          refine VW.iload (pc' := 24) d_Trial_touch_22 rfl rfl ?_
          refine VW.ild (pc' := 25) d_Trial_touch_24 rfl (by first | exact hC.k 13 rfl | exact hC.k 14 rfl | exact hC.k 15 rfl | exact hC.k 16 rfl | exact hC.k 17 rfl | exact hC.k 18 rfl | exact hC.k 19 rfl | exact hC.k 20 rfl | exact hC.k 2 rfl | exact hC.k 3 rfl | exact hC.k 6 rfl | exact hC.k 7 rfl) (by omega) (by omega) (by first | exact hC.p 22 rfl | exact hC.p 23 rfl | exact hC.p 24 rfl | exact hC.p 25 rfl | exact hC.p 26 rfl | exact hC.p 27 rfl | exact hC.p 28 rfl | exact hC.p 29 rfl | exact hC.p 9 rfl | exact hC.p 12 rfl | exact hC.p 13 rfl | rfl) ?_
          refine VW.iload_n (pc' := 26) d_Trial_touch_25 rfl rfl ?_
          refine VW.icmp_ne (tgt := 81) (pc' := 29) d_Trial_touch_26 rfl rfl (fun c26 => ?_) (fun c26 => ?_)
          case refine_2 => exact absurd c26 (by omega)
          refine VW.pick [0, 1, 2, 3] ?_
          exact f9
  have l9 := loop n I ⟨fun _ _ _ => rfl, Nat.le_refl _, fun o _ => ⟨fun _ _ => rfl, fun j j0 j1 => by omega⟩, fun j j0 j1 => by omega⟩
  have e0 := hn.1
  clear loop fin
  refine VW.aload_n (pc' := 1) d_Trial_touch_0 rfl rfl ?_
  refine VW.gI (ci := 9) (T := T9) (N := 8) (k := 7) (k' := 7) (pc' := 4) d_Trial_touch_1 rfl lk_Trial_48 in9 rfl rfl rfl rfl (by first | exact hC.k 13 rfl | exact hC.k 14 rfl | exact hC.k 15 rfl | exact hC.k 16 rfl | exact hC.k 17 rfl | exact hC.k 18 rfl | exact hC.k 19 rfl | exact hC.k 20 rfl | exact hC.k 2 rfl | exact hC.k 3 rfl | exact hC.k 6 rfl | exact hC.k 7 rfl) (by first | exact hC.p 22 rfl | exact hC.p 23 rfl | exact hC.p 24 rfl | exact hC.p 25 rfl | exact hC.p 26 rfl | exact hC.p 27 rfl | exact hC.p 28 rfl | exact hC.p 29 rfl | exact hC.p 9 rfl | exact hC.p 12 rfl | exact hC.p 13 rfl | exact e0 | rfl) ?_
  refine VW.istore_n (pc' := 5) d_Trial_touch_4 rfl rfl ?_
  refine VW.aload_n (pc' := 6) d_Trial_touch_5 rfl rfl ?_
  refine VW.gI (ci := 9) (T := T9) (N := 8) (k := 7) (k' := 7) (pc' := 9) d_Trial_touch_6 rfl lk_Trial_48 in9 rfl rfl rfl rfl (by first | exact hC.k 13 rfl | exact hC.k 14 rfl | exact hC.k 15 rfl | exact hC.k 16 rfl | exact hC.k 17 rfl | exact hC.k 18 rfl | exact hC.k 19 rfl | exact hC.k 20 rfl | exact hC.k 2 rfl | exact hC.k 3 rfl | exact hC.k 6 rfl | exact hC.k 7 rfl) (by first | exact hC.p 22 rfl | exact hC.p 23 rfl | exact hC.p 24 rfl | exact hC.p 25 rfl | exact hC.p 26 rfl | exact hC.p 27 rfl | exact hC.p 28 rfl | exact hC.p 29 rfl | exact hC.p 9 rfl | exact hC.p 12 rfl | exact hC.p 13 rfl | exact e0 | rfl) ?_
  refine VW.iconst (pc' := 10) d_Trial_touch_9 rfl (by decide) ?_
  refine VW.isub (pc' := 11) d_Trial_touch_10 rfl (by omega) ?_
  refine VW.istore (pc' := 13) d_Trial_touch_11 rfl rfl ?_
  refine VW.pick [0, 1, 2, 3, 4] ?_
  exact l9
end
