section
variable {K : KT} {P : PT} {J I : IT}
/-- a row comes ahead of another one -/
def rlt : List Int → List Int → Prop
  | x :: xs, y :: ys => x < y ∨ (x = y ∧ rlt xs ys)
  | _, _ => False
theorem rlt_irr : ∀ x : List Int, ¬ rlt x x := by
  intro x
  induction x with
  | nil => exact fun h => h
  | cons a xs ih => exact fun h => h.elim (fun z => by omega) (fun z => ih z.2)
theorem rlt_tr : ∀ x y z : List Int, rlt x y → rlt y z → rlt x z := by
  intro x
  induction x with
  | nil => intro y z h; cases y <;> exact h.elim
  | cons a xs ih =>
    intro y z
    cases y with
    | nil => intro h; exact h.elim
    | cons b ys =>
      cases z with
      | nil => intro _ h; exact h.elim
      | cons c zs =>
        intro h1 h2
        rcases h1 with h1 | ⟨h1, h3⟩
        · rcases h2 with h2 | ⟨h2, h4⟩
          · exact Or.inl (by omega)
          · exact Or.inl (by omega)
        · rcases h2 with h2 | ⟨h2, h4⟩
          · exact Or.inl (by omega)
          · exact Or.inr ⟨by omega, ih ys zs h3 h4⟩
theorem rlt_tri : ∀ x y : List Int, x.length = y.length → rlt x y ∨ x = y ∨ rlt y x := by
  intro x
  induction x with
  | nil => intro y h; cases y with
    | nil => exact Or.inr (Or.inl rfl)
    | cons b ys => exact absurd h (by simp)
  | cons a xs ih =>
    intro y h
    cases y with
    | nil => exact absurd h (by simp)
    | cons b ys =>
      have h' : xs.length = ys.length := by simpa using h
      by_cases e : a = b
      · rcases ih ys h' with z | z | z
        · exact Or.inl (Or.inr ⟨e, z⟩)
        · exact Or.inr (Or.inl (by rw [e, z]))
        · exact Or.inr (Or.inr (Or.inr ⟨e.symm, z⟩))
      · by_cases e2 : a < b
        · exact Or.inl (Or.inl e2)
        · exact Or.inr (Or.inr (Or.inl (by omega)))
theorem rlt_app : ∀ p x y : List Int, rlt (p ++ x) (p ++ y) ↔ rlt x y := by
  intro p
  induction p with
  | nil => intro x y; exact Iff.rfl
  | cons a ps ih =>
    intro x y
    show (a < a ∨ (a = a ∧ rlt (ps ++ x) (ps ++ y))) ↔ _
    rw [ih]
    exact ⟨fun h => h.elim (fun z => by omega) (fun z => z.2), fun h => Or.inr ⟨rfl, h⟩⟩
theorem rowAt_cons {a w : Nat} {b : Int} : rowAt I a b (1 + w) = I a b :: rowAt I a (b + 1) w := by
  rw [rowAt_add, show (1 : Nat) = 0 + 1 from rfl, rowAt_succ, rowAt_0]
  show I a (b + 0) :: _ = _
  rw [Int.add_zero]
  rfl
theorem sp_Model_isAhead {a b : Int} {w : Nat} (hM : MW K P) (hw : w ≤ 10) (ha : 0 ≤ a ∧ a + w ≤ 800000) (hb : 0 ≤ b ∧ b + w ≤ 800000) : Sp m_Model_isAhead false (rmv 0 0) (ex K P J I (.inl (some (vI (bI (rlt (rowAt I 270 a w) (rowAt I 270 b w))))))) K P J I [vR (some 100), vI a, vI b, vI (w : Int)] := by
  refine Sp.ofV (by decide) (Or.inr rfl) rfl ?_
  have loop : ∀ (l c : Nat), c + l = w → rowAt I 270 a c = rowAt I 270 b c → VW m_Model_isAhead false (rmv 0 0) (ex K P J I (.inl (some (vI (bI (rlt (rowAt I 270 a w) (rowAt I 270 b w))))))) K P J I 0 0 3 [(0, vR (some 100)), (1, vI a), (2, vI b), (3, vI (w : Int)), (4, vI (c : Int))] [] := by
    intro l
    induction l with
    | zero =>
      intro c hc he
      have ec : c = w := by omega
      rw [ec] at he
      have no : ¬ rlt (rowAt I 270 a w) (rowAt I 270 b w) := by rw [he]; exact rlt_irr _
      refine VW.iload (pc' := 5) d_Model_isAhead_3 rfl rfl ?_
      refine VW.iload_n (pc' := 6) d_Model_isAhead_5 rfl rfl ?_
      refine VW.icmp_ge (tgt := 63) (pc' := 9) d_Model_isAhead_6 rfl rfl (fun c6 => ?_) (fun c6 => ?_)
      · refine VW.iconst (pc' := 64) d_Model_isAhead_63 rfl (by decide) ?_
        exact VW.iret d_Model_isAhead_64 rfl rfl (Nat.zero_le _) (Nat.zero_le _) (by rw [bI0 no]; exact ex_rf)
      · exfalso; omega
    | succ l ih =>
      intro c hc he
      have ec : ((c + 1 : Nat) : Int) = (c : Int) + 1 := by omega
      have e : rlt (rowAt I 270 a w) (rowAt I 270 b w) ↔ (I 270 (a + (c : Int)) < I 270 (b + (c : Int)) ∨ (I 270 (a + (c : Int)) = I 270 (b + (c : Int)) ∧ rlt (rowAt I 270 (a + (c : Int) + 1) l) (rowAt I 270 (b + (c : Int) + 1) l))) := by
        rw [← hc, Nat.add_comm l 1, rowAt_add (v := c) (b := a), rowAt_add (v := c) (b := b), he, rlt_app, rowAt_cons, rowAt_cons]
        exact Iff.rfl
      have nx : I 270 (a + (c : Int)) = I 270 (b + (c : Int)) → VW m_Model_isAhead false (rmv 0 0) (ex K P J I (.inl (some (vI (bI (rlt (rowAt I 270 a w) (rowAt I 270 b w))))))) K P J I 0 0 3 [(0, vR (some 100)), (1, vI a), (2, vI b), (3, vI (w : Int)), (4, vI ((c : Int) + 1))] [] := fun z => by
        have := ih (c + 1) (by omega) (by rw [rowAt_succ, rowAt_succ, he, z])
        rw [ec] at this
        exact this
      have yes : I 270 (a + (c : Int)) < I 270 (b + (c : Int)) → rlt (rowAt I 270 a w) (rowAt I 270 b w) := fun z => e.2 (Or.inl z)
      have no : I 270 (b + (c : Int)) ≤ I 270 (a + (c : Int)) → I 270 (a + (c : Int)) ≠ I 270 (b + (c : Int)) → ¬ rlt (rowAt I 270 a w) (rowAt I 270 b w) := fun z z2 y => (e.1 y).elim (fun q => by omega) (fun q => z2 q.1)
      clear ih e he
      refine VW.iload (pc' := 5) d_Model_isAhead_3 rfl rfl ?_
      refine VW.iload_n (pc' := 6) d_Model_isAhead_5 rfl rfl ?_
      refine VW.icmp_ge (tgt := 63) (pc' := 9) d_Model_isAhead_6 rfl rfl (fun c6 => ?_) (fun c6 => ?_)
      · exfalso; omega
      · refine VW.aload_n (pc' := 10) d_Model_isAhead_9 rfl rfl ?_
        refine VW.gP (ci := 11) (T := T11) (N := 94) (k := 70) (k' := 70) (pc' := 13) d_Model_isAhead_10 rfl lk_Model_178 in11 rfl rfl rfl rfl (hM.k rfl) (hM.p (r := some 270) 70 rfl rfl) ?_
        refine VW.iload_n (pc' := 14) d_Model_isAhead_13 rfl rfl ?_
        refine VW.iload (pc' := 16) d_Model_isAhead_14 rfl rfl ?_
        refine VW.iadd (pc' := 17) d_Model_isAhead_16 rfl (by omega) ?_
        refine VW.ild (pc' := 18) d_Model_isAhead_17 rfl (hM.k rfl) (by omega) (by omega) (rfl) ?_
        refine VW.aload_n (pc' := 19) d_Model_isAhead_18 rfl rfl ?_
        refine VW.gP (ci := 11) (T := T11) (N := 94) (k := 70) (k' := 70) (pc' := 22) d_Model_isAhead_19 rfl lk_Model_178 in11 rfl rfl rfl rfl (hM.k rfl) (hM.p (r := some 270) 70 rfl rfl) ?_
        refine VW.iload_n (pc' := 23) d_Model_isAhead_22 rfl rfl ?_
        refine VW.iload (pc' := 25) d_Model_isAhead_23 rfl rfl ?_
        refine VW.iadd (pc' := 26) d_Model_isAhead_25 rfl (by omega) ?_
        refine VW.ild (pc' := 27) d_Model_isAhead_26 rfl (hM.k rfl) (by omega) (by omega) (rfl) ?_
        refine VW.icmp_eq (tgt := 57) (pc' := 30) d_Model_isAhead_27 rfl rfl (fun c27 => ?_) (fun c27 => ?_)
        · refine VW.iinc (pc' := 60) d_Model_isAhead_57 rfl rfl rfl (by omega) ?_
          refine VW.goto (pc' := 3) d_Model_isAhead_60 rfl ?_
          refine VW.nrm ?_
          exact nx c27
        · refine VW.aload_n (pc' := 31) d_Model_isAhead_30 rfl rfl ?_
          refine VW.gP (ci := 11) (T := T11) (N := 94) (k := 70) (k' := 70) (pc' := 34) d_Model_isAhead_31 rfl lk_Model_178 in11 rfl rfl rfl rfl (hM.k rfl) (hM.p (r := some 270) 70 rfl rfl) ?_
          refine VW.iload_n (pc' := 35) d_Model_isAhead_34 rfl rfl ?_
          refine VW.iload (pc' := 37) d_Model_isAhead_35 rfl rfl ?_
          refine VW.iadd (pc' := 38) d_Model_isAhead_37 rfl (by omega) ?_
          refine VW.ild (pc' := 39) d_Model_isAhead_38 rfl (hM.k rfl) (by omega) (by omega) (rfl) ?_
          refine VW.aload_n (pc' := 40) d_Model_isAhead_39 rfl rfl ?_
          refine VW.gP (ci := 11) (T := T11) (N := 94) (k := 70) (k' := 70) (pc' := 43) d_Model_isAhead_40 rfl lk_Model_178 in11 rfl rfl rfl rfl (hM.k rfl) (hM.p (r := some 270) 70 rfl rfl) ?_
          refine VW.iload_n (pc' := 44) d_Model_isAhead_43 rfl rfl ?_
          refine VW.iload (pc' := 46) d_Model_isAhead_44 rfl rfl ?_
          refine VW.iadd (pc' := 47) d_Model_isAhead_46 rfl (by omega) ?_
          refine VW.ild (pc' := 48) d_Model_isAhead_47 rfl (hM.k rfl) (by omega) (by omega) (rfl) ?_
          refine VW.icmp_ge (tgt := 55) (pc' := 51) d_Model_isAhead_48 rfl rfl (fun c48 => ?_) (fun c48 => ?_)
          · refine VW.iconst (pc' := 56) d_Model_isAhead_55 rfl (by decide) ?_
            exact VW.iret d_Model_isAhead_56 rfl rfl (Nat.zero_le _) (Nat.zero_le _) (by first | (have q := bI1 (yes (by omega)); rw [q]; exact ex_rf) | (have q := bI0 (no (by omega) c27); rw [q]; exact ex_rf))
          · refine VW.iconst (pc' := 52) d_Model_isAhead_51 rfl (by decide) ?_
            refine VW.goto (pc' := 56) d_Model_isAhead_52 rfl ?_
            exact VW.iret d_Model_isAhead_56 rfl rfl (Nat.zero_le _) (Nat.zero_le _) (by first | (have q := bI1 (yes (by omega)); rw [q]; exact ex_rf) | (have q := bI0 (no (by omega) c27); rw [q]; exact ex_rf))
  have l := loop w 0 (by omega) rfl
  clear loop
  refine VW.iconst (pc' := 1) d_Model_isAhead_0 rfl (by decide) ?_
  refine VW.istore (pc' := 3) d_Model_isAhead_1 rfl rfl ?_
  refine VW.nrm ?_
  exact l
theorem seg_set {S : IT} {a w n i : Nat} {b : Int} {x : List Int} (hx : rowAt S a (b + (w : Int) * (i : Int)) w = x) (h : ∀ q : Int, ¬ (b + (w : Int) * (i : Int) ≤ q ∧ q < b + (w : Int) * (i : Int) + w) → S a q = I a q) : seg S a b w n = (seg I a b w n).set i x := by
  apply List.ext_getElem?
  intro k
  by_cases hk : k < n
  · rw [seg_get hk]
    by_cases e : i = k
    · subst e
      rw [List.getElem?_set_self (by rw [seg_len]; exact hk), hx]
    · rw [List.getElem?_set_ne e, seg_get hk]
      congr 1
      refine rowAt_congr (fun c h0 h1 => h _ (fun z => ?_))
      by_cases e2 : i < k
      · have := mulStep (w := (w : Int)) (k := (i : Int)) (n := (k : Int)) (by omega) (by omega)
        omega
      · have := mulStep (w := (w : Int)) (k := (k : Int)) (n := (i : Int)) (by omega) (by omega)
        omega
  · rw [List.getElem?_eq_none (by rw [seg_len]; omega), List.getElem?_eq_none (by rw [List.length_set, seg_len]; omega)]
/-- rising -/
def rle (x y : List Int) : Prop := ¬ rlt y x
def Ris (L : List (List Int)) : Prop := List.Pairwise rle L
theorem rle_tr {x y z : List Int} (hxy : x.length = y.length) (h1 : rle x y) (h2 : rle y z) : rle x z := fun h => by
  rcases rlt_tri x y hxy with q | q | q
  · exact h2 (rlt_tr z x y h q)
  · rw [q] at h; exact h2 h
  · exact h1 q
/-- putting x where it belongs -/
theorem ris_put {A B : List (List Int)} {x : List Int} (hl : ∀ a ∈ A, a.length = x.length) (hA : Ris (A ++ B)) (hB : ∀ b ∈ B, rlt x b) (hE : A = [] ∨ ∃ A0 y, A = A0 ++ [y] ∧ ¬ rlt x y) : Ris (A ++ x :: B) := by
  unfold Ris at hA ⊢
  rw [List.pairwise_append] at hA ⊢
  refine ⟨hA.1, ?_, fun a ha b hb => ?_⟩
  · rw [List.pairwise_cons]
    exact ⟨fun b hb h => rlt_irr _ (rlt_tr _ _ _ (hB b hb) h), hA.2.1⟩
  · rcases List.mem_cons.1 hb with e | e
    · subst e
      rcases hE with e | ⟨A0, y, e, hy⟩
      · rw [e] at ha; cases ha
      · have hay : a = y ∨ rle a y := by
          rw [e] at ha
          rcases List.mem_append.1 ha with q | q
          · have := hA.1
            rw [e, List.pairwise_append] at this
            exact Or.inr (this.2.2 a q y (List.mem_singleton.2 rfl))
          · exact Or.inl (List.mem_singleton.1 q)
        rcases hay with q | q
        · rw [q]; exact hy
        · exact rle_tr (by rw [hl a ha, hl y (by rw [e]; exact List.mem_append_right _ (List.mem_singleton.2 rfl))]) q hy
    · exact hA.2.2 a ha b e
end
