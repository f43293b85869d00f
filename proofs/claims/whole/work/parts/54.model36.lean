section
variable {K : KT} {P : PT} {J I : IT} {Q : PQ}
theorem so_k {w n : Nat} {far : Int} (hM : MW K P) (hw : w ≤ 10) (hN : n ≤ 512) (hf : 1 ≤ far ∧ far ≤ 600) (hQ : ∀ T (z : Int), KvI I T w n n far → VW m_Model_sorts false (rmv 1 24) Q K P J T 0 0 195 [(0, vR (some 100)), (1, vI (w : Int)), (2, vI (n : Int)), (3, vI ((w : Int) * (n : Int))), (4, vI far), (5, vI z)] []) : ∀ (l k : Nat) (T : IT), k + l = n → KvI I T w n k far → VW m_Model_sorts false (rmv 1 24) Q K P J T 0 0 32 [(0, vR (some 100)), (1, vI (w : Int)), (2, vI (n : Int)), (3, vI ((w : Int) * (n : Int))), (4, vI far), (5, vI (k : Int))] [] := by
  have hwn : (w : Int) * (n : Int) ≤ 10 * 512 := mulUp (by omega) (by omega) (by omega) (by omega)
  intro l
  induction l with
  | zero =>
    intro k T hk hT
    have ek : k = n := by omega
    rw [ek] at hT
    have q := hQ T k hT
    clear hQ hT
    refine VW.iload (pc' := 34) d_Model_sorts_32 rfl rfl ?_
    refine VW.iload_n (pc' := 35) d_Model_sorts_34 rfl rfl ?_
    refine VW.icmp_ge (tgt := 195) (pc' := 38) d_Model_sorts_35 rfl rfl (fun c35 => ?_) (fun c35 => ?_)
    · refine VW.pick [0, 1, 2, 3, 4, 5] ?_
      exact q
    · exfalso; omega
  | succ l ih =>
    intro k T hk hT
    have s1 := mulStep (w := (w : Int)) (k := (k : Int)) (n := (n : Int)) (by omega) (by omega)
    have s0 := mulNN (w := (w : Int)) (k := (k : Int)) (by omega) (by omega)
    have ek : ((k + 1 : Nat) : Int) = (k : Int) + 1 := by omega
    have wh := so_while (I := I) (Q := Q) (K := K) (P := P) (J := J) (w := w) (n := n) (k := k) (far := far) hM hw hN (by omega) hf (fun U z hU => by
      have nx := ih (k + 1) U (by omega) hU
      rw [ek] at nx
      clear ih hQ hT hU
      refine VW.iinc (pc' := 192) d_Model_sorts_189 rfl rfl rfl (by omega) ?_
      refine VW.goto (pc' := 32) d_Model_sorts_192 rfl ?_
      refine VW.pick [0, 1, 2, 3, 4, 5] ?_
      exact nx)
    have st := wh k k _ _ (Nat.le_refl _) (Nat.le_refl _) (hT.start (by omega))
    have c1 := so_c1 (Q := Q) (K := K) (P := P) (J := J) (S := T) (w := w) (n := n) (k := k) (far := far) hM hw ⟨s0, s1⟩ (by omega)
    have c2 : VW m_Model_sorts false (rmv 1 24) Q K P J (cpyI T 270 ((w : Int) * (k : Int)) 270 ((w : Int) * (n : Int)) w) 0 0 74 [(0, vR (some 100)), (1, vI (w : Int)), (2, vI (n : Int)), (3, vI ((w : Int) * (n : Int))), (4, vI far), (5, vI (k : Int))] [] := by
      clear c1 wh ih hQ hT
      refine VW.iload (pc' := 76) d_Model_sorts_74 rfl rfl ?_
      refine VW.istore (pc' := 78) d_Model_sorts_76 rfl rfl ?_
      refine VW.pick [0, 1, 2, 3, 4, 5, 6] ?_
      exact st
    have c3 := c1 c2
    clear c1 c2 wh ih hQ hT st
    refine VW.iload (pc' := 34) d_Model_sorts_32 rfl rfl ?_
    refine VW.iload_n (pc' := 35) d_Model_sorts_34 rfl rfl ?_
    refine VW.icmp_ge (tgt := 195) (pc' := 38) d_Model_sorts_35 rfl rfl (fun c35 => ?_) (fun c35 => ?_)
    · exfalso; omega
    · refine VW.iconst (pc' := 39) d_Model_sorts_38 rfl (by decide) ?_
      refine VW.istore (pc' := 41) d_Model_sorts_39 rfl rfl ?_
      refine VW.pick [0, 1, 2, 3, 4, 5, 6] ?_
      exact c3
theorem sp_Model_sorts {w n : Nat} (hM : MW K P) (hw1 : I 274 0 = w) (hn1 : I 273 0 = n) (hw : w ≤ 10) (hN : n ≤ 512) : Sp m_Model_sorts false (rmv 1 24) ((exU K P J (.inl none) (fun I' => (seg I' 270 0 w n).Perm (seg I 270 0 w n) ∧ Ris (seg I' 270 0 w n) ∧ ∀ (o : Nat) (q : Int), o ≠ 270 → I' o q = I o q))) K P J I [vR (some 100)] := by
  refine Sp.ofV (by decide) (Or.inr rfl) rfl ?_
  have hwn : (w : Int) * (n : Int) ≤ 10 * 512 := mulUp (by omega) (by omega) (by omega) (by omega)
  have hwn0 := mulNN (w := (w : Int)) (k := (n : Int)) (by omega) (by omega)
  have loop : ∀ (l : Nat) (far z : Int) (T : IT), 0 ≤ far → far ≤ l → far ≤ n → (∀ (o : Nat) (q : Int), o ≠ 270 → T o q = I o q) → (seg T 270 0 w n).Perm (seg I 270 0 w n) → (far = 0 → Ris (seg T 270 0 w n)) → VW m_Model_sorts false (rmv 1 24) (exU K P J (.inl none) (fun I' => (seg I' 270 0 w n).Perm (seg I 270 0 w n) ∧ Ris (seg I' 270 0 w n) ∧ ∀ (o : Nat) (q : Int), o ≠ 270 → I' o q = I o q)) K P J T 0 0 23 [(0, vR (some 100)), (1, vI (w : Int)), (2, vI (n : Int)), (3, vI ((w : Int) * (n : Int))), (4, vI far)] [] := by
    intro l
    induction l with
    | zero =>
      intro far z T h0 h1 h2 f1 f2 f3
      have fin : (seg T 270 0 w n).Perm (seg I 270 0 w n) ∧ Ris (seg T 270 0 w n) ∧ ∀ (o : Nat) (q : Int), o ≠ 270 → T o q = I o q := ⟨f2, f3 (by omega), f1⟩
      clear f1 f2 f3
      refine VW.iload (pc' := 25) d_Model_sorts_23 rfl rfl ?_
      refine VW.if_le (tgt := 204) (pc' := 28) d_Model_sorts_25 rfl rfl (fun c25 => ?_) (fun c25 => ?_)
      · exact VW.vret d_Model_sorts_204 rfl (Nat.zero_le _) (Nat.zero_le _) (exU_mk fin)
      · exfalso; omega
    | succ l ih =>
      intro far z T h0 h1 h2 f1 f2 f3
      have fin : far ≤ 0 → (seg T 270 0 w n).Perm (seg I 270 0 w n) ∧ Ris (seg T 270 0 w n) ∧ ∀ (o : Nat) (q : Int), o ≠ 270 → T o q = I o q := fun y => ⟨f2, f3 (by omega), f1⟩
      have go : 0 < far → VW m_Model_sorts false (rmv 1 24) (exU K P J (.inl none) (fun I' => (seg I' 270 0 w n).Perm (seg I 270 0 w n) ∧ Ris (seg I' 270 0 w n) ∧ ∀ (o : Nat) (q : Int), o ≠ 270 → I' o q = I o q)) K P J T 0 0 32 [(0, vR (some 100)), (1, vI (w : Int)), (2, vI (n : Int)), (3, vI ((w : Int) * (n : Int))), (4, vI far), (5, vI far)] [] := fun hf => by
        have hs := so_k (I := I) (Q := (exU K P J (.inl none) (fun I' => (seg I' 270 0 w n).Perm (seg I 270 0 w n) ∧ Ris (seg I' 270 0 w n) ∧ ∀ (o : Nat) (q : Int), o ≠ 270 → I' o q = I o q))) (K := K) (P := P) (J := J) (w := w) (n := n) (far := far) hM hw hN (by omega) (fun U y hU => by
          have e2 : far.tdiv 2 = far / 2 := Int.tdiv_eq_ediv_of_nonneg h0
          have nx := ih (far / 2) 0 U (by omega) (by omega) (by omega) hU.1 hU.2.1 (fun q => by
            have := hU.2.2 (by omega)
            rw [List.take_of_length_le (by rw [seg_len]; exact Nat.le_refl _)] at this
            exact this)
          rw [← e2] at nx
          clear ih hU f1 f2 f3 fin
          refine VW.iload (pc' := 197) d_Model_sorts_195 rfl rfl ?_
          refine VW.iconst (pc' := 198) d_Model_sorts_197 rfl (by decide) ?_
          refine VW.idiv (pc' := 199) d_Model_sorts_198 rfl (by omega) (by omega) ?_
          refine VW.istore (pc' := 201) d_Model_sorts_199 rfl rfl ?_
          refine VW.goto (pc' := 23) d_Model_sorts_201 rfl ?_
          refine VW.pick [0, 1, 2, 3, 4] ?_
          exact nx)
        have st := hs (n - far.toNat) far.toNat T (by omega) ⟨f1, f2, fun y => by
          have : far.toNat = 1 := by omega
          rw [this]
          unfold Ris
          rcases seg T 270 0 w n with _ | ⟨r, rs⟩
          · exact List.Pairwise.nil
          · exact List.pairwise_singleton _ _⟩
        rw [show ((far.toNat : Nat) : Int) = far by omega] at st
        exact st
      clear ih f1 f2 f3
      refine VW.iload (pc' := 25) d_Model_sorts_23 rfl rfl ?_
      refine VW.if_le (tgt := 204) (pc' := 28) d_Model_sorts_25 rfl rfl (fun c25 => ?_) (fun c25 => ?_)
      · exact VW.vret d_Model_sorts_204 rfl (Nat.zero_le _) (Nat.zero_le _) (exU_mk (fin c25))
      · have g := go c25
        refine VW.iload (pc' := 30) d_Model_sorts_28 rfl rfl ?_
        refine VW.istore (pc' := 32) d_Model_sorts_30 rfl rfl ?_
        refine VW.pick [0, 1, 2, 3, 4, 5] ?_
        exact g
  have e2 : (n : Int).tdiv 2 = (n : Int) / 2 := Int.tdiv_eq_ediv_of_nonneg (by omega)
  have l := loop n ((n : Int) / 2) 0 I (by omega) (by omega) (by omega) (fun o q _ => rfl) (List.Perm.refl _) (fun y => by
    have hl : (seg I 270 0 w n).length ≤ 1 := by rw [seg_len]; omega
    unfold Ris
    generalize seg I 270 0 w n = L at hl ⊢
    rcases L with _ | ⟨r, _ | ⟨r2, rs⟩⟩
    · exact List.Pairwise.nil
    · exact List.pairwise_singleton _ _
    · exact absurd hl (by simp))
  rw [← e2] at l
  clear loop
  refine VW.aload_n (pc' := 1) d_Model_sorts_0 rfl rfl ?_
  refine VW.gP (ci := 11) (T := T11) (N := 94) (k := 74) (k' := 74) (pc' := 4) d_Model_sorts_1 rfl lk_Model_187 in11 rfl rfl rfl rfl (hM.k rfl) (hM.p (r := some 274) 74 rfl rfl) ?_
  refine VW.iconst (pc' := 5) d_Model_sorts_4 rfl (by decide) ?_
  refine VW.ild (pc' := 6) d_Model_sorts_5 rfl (hM.k rfl) (by omega) (by omega) (by first | exact hw1 | exact hn1 | rfl) ?_
  refine VW.istore_n (pc' := 7) d_Model_sorts_6 rfl rfl ?_
  refine VW.aload_n (pc' := 8) d_Model_sorts_7 rfl rfl ?_
  refine VW.gP (ci := 11) (T := T11) (N := 94) (k := 73) (k' := 73) (pc' := 11) d_Model_sorts_8 rfl lk_Model_184 in11 rfl rfl rfl rfl (hM.k rfl) (hM.p (r := some 273) 73 rfl rfl) ?_
  refine VW.iconst (pc' := 12) d_Model_sorts_11 rfl (by decide) ?_
  refine VW.ild (pc' := 13) d_Model_sorts_12 rfl (hM.k rfl) (by omega) (by omega) (by first | exact hw1 | exact hn1 | rfl) ?_
  refine VW.istore_n (pc' := 14) d_Model_sorts_13 rfl rfl ?_
  refine VW.iload_n (pc' := 15) d_Model_sorts_14 rfl rfl ?_
  refine VW.iload_n (pc' := 16) d_Model_sorts_15 rfl rfl ?_
  refine VW.imul (pc' := 17) d_Model_sorts_16 rfl (by omega) ?_
  refine VW.istore_n (pc' := 18) d_Model_sorts_17 rfl rfl ?_
  refine VW.iload_n (pc' := 19) d_Model_sorts_18 rfl rfl ?_
  refine VW.iconst (pc' := 20) d_Model_sorts_19 rfl (by decide) ?_
  refine VW.idiv (pc' := 21) d_Model_sorts_20 rfl (by omega) (by omega) ?_
  refine VW.istore (pc' := 23) d_Model_sorts_21 rfl rfl ?_
  refine VW.pick [0, 1, 2, 3, 4] ?_
  exact l
end
