section
variable {K : KT} {P : PT} {J I : IT}
/-- c cells laid at n: those at a, or NULL where there is nothing -/
def layA (I : IT) (a n c : Int) : IT := if a = -1 then filI I 270 n (n + c) (-2147483648) else cpyI I 270 a 270 n c
theorem layA_n {a n c : Int} (h : a = -1) : layA I a n c = filI I 270 n (n + c) (-2147483648) := if_pos h
theorem layA_c {a n c : Int} (h : a ≠ -1) : layA I a n c = cpyI I 270 a 270 n c := if_neg h
theorem layA_0 {a n : Int} : layA I a n 0 = I := by
  by_cases h : a = -1
  · rw [layA_n h]; exact filI_0 (by omega)
  · rw [layA_c h]; exact cpyI_0
theorem layA_out {a n c q : Int} {o : Nat} (h : o ≠ 270 ∨ q < n ∨ n + c ≤ q) : layA I a n c o q = I o q := by
  by_cases z : a = -1
  · rw [layA_n z]; exact if_neg (by omega)
  · rw [layA_c z]; exact cpyI_out h
theorem layA_stN {a n c : Int} (h : a = -1) (h0 : 0 ≤ c) : up2 (layA I a n c) 270 (n + c) (-2147483648) = layA I a n (c + 1) := by
  rw [layA_n h, layA_n h, ← Int.add_assoc]
  exact filI_step (by omega)
theorem layA_stC {a n c : Int} (h : a ≠ -1) (h0 : 0 ≤ c) (h1 : a + c < n) : up2 (layA I a n c) 270 (n + c) (I 270 (a + c)) = layA I a n (c + 1) := by
  rw [layA_c h, layA_c h]
  exact cpyI_stepG h0 (cpyI_out (Or.inr (Or.inl h1)))
/-- what is laid, as a list -/
def part (I : IT) (a : Int) (w : Nat) : List Int := if a = -1 then List.replicate w (-2147483648) else rowAt I 270 a w
theorem rowAt_fil {n : Int} {w : Nat} {v : Int} : rowAt (filI I 270 n (n + (w : Int)) v) 270 n w = List.replicate w v := by
  unfold rowAt
  rw [List.eq_replicate_iff]
  refine ⟨by rw [List.length_map, List.length_range], fun z hz => ?_⟩
  obtain ⟨c, hc, rfl⟩ := List.mem_map.1 hz
  have := List.mem_range.1 hc
  exact if_pos ⟨rfl, by omega, by omega⟩
theorem rowAt_layA {a n : Int} {w : Nat} : rowAt (layA I a n w) 270 n w = part I a w := by
  unfold part
  by_cases h : a = -1
  · rw [layA_n h, if_pos h]; exact rowAt_fil
  · rw [layA_c h, if_neg h]; exact rowAt_cpy
theorem rowAt_add {a v w : Nat} {b : Int} : rowAt I a b (v + w) = rowAt I a b v ++ rowAt I a (b + (v : Int)) w := by
  induction w with
  | zero => rw [rowAt_0, List.append_nil]; rfl
  | succ w ih => rw [← Nat.add_assoc, rowAt_succ, ih, rowAt_succ, List.append_assoc, show b + ((v + w : Nat) : Int) = b + (v : Int) + (w : Int) by omega]
theorem part_of {S : IT} {a : Int} {w : Nat} (h : a ≠ -1 → ∀ c : Int, 0 ≤ c → c < w → S 270 (a + c) = I 270 (a + c)) : part S a w = part I a w := by
  unfold part
  by_cases z : a = -1
  · rw [if_pos z, if_pos z]
  · rw [if_neg z, if_neg z]; exact rowAt_congr (h z)
/-- a row of two parts -/
def layB (I : IT) (n a wa b wb : Int) : IT := layA (layA I a n wa) b (n + wa) wb
theorem layB_out {n a wa b wb q : Int} {o : Nat} (h0 : 0 ≤ wa) (h1 : 0 ≤ wb) (h : o ≠ 270 ∨ q < n ∨ n + wa + wb ≤ q) : layB I n a wa b wb o q = I o q := by
  unfold layB
  rw [layA_out (by omega), layA_out (by omega)]
theorem layB_row {n a b : Int} {wa wb : Nat} (hb : b ≠ -1 → b + wb ≤ n) : rowAt (layB I n a wa b wb) 270 n (wa + wb) = part I a wa ++ part I b wb := by
  rw [rowAt_add]
  congr 1
  · rw [show rowAt (layB I n a wa b wb) 270 n wa = rowAt (layA I a n wa) 270 n wa from rowAt_congr (fun c h0 h1 => layA_out (Or.inr (Or.inl (by omega))))]
    exact rowAt_layA
  · unfold layB
    rw [rowAt_layA]
    exact part_of (fun z c h0 h1 => layA_out (Or.inr (Or.inl (by have := hb z; omega))))
theorem sp_Model_lays {n a wa b wb : Int} (hM : MW K P) (hn : 0 ≤ n ∧ n ≤ 700000) (hwa : 0 ≤ wa ∧ wa ≤ 10) (hwb : 0 ≤ wb ∧ wb ≤ 10) (ha : a ≠ -1 → 0 ≤ a ∧ a + wa ≤ n) (hb : b ≠ -1 → 0 ≤ b ∧ b + wb ≤ n) : Sp m_Model_lays false (rmv 0 0) (ex K P J (layB I n a wa b wb) (.inl none)) K P J I [vR (some 100), vI n, vI a, vI wa, vI b, vI wb] := by
  refine Sp.ofV (by decide) (Or.inr rfl) rfl ?_
  have loop2 : ∀ (X : IT), X = layA I a n wa → ∀ (l : Nat) (c : Int), c + l = wb → 0 ≤ c → VW m_Model_lays false (rmv 0 0) (ex K P J (layB I n a wa b wb) (.inl none)) K P J (layA X b (n + wa) c) 0 0 46 [(0, vR (some 100)), (1, vI n), (2, vI a), (3, vI wa), (4, vI b), (5, vI wb), (6, vI c)] [] := by
    intro X hX l
    induction l with
    | zero =>
      intro c hc h0
      have ec : c = wb := by omega
      subst ec
      refine VW.iload (pc' := 48) d_Model_lays_46 rfl rfl ?_
      refine VW.iload (pc' := 50) d_Model_lays_48 rfl rfl ?_
      refine VW.icmp_ge (tgt := 91) (pc' := 53) d_Model_lays_50 rfl rfl (fun c50 => ?_) (fun c50 => ?_)
      · exact VW.vret d_Model_lays_91 rfl (Nat.zero_le _) (Nat.zero_le _) (by rw [hX]; exact ex_rf)
      · exfalso; omega
    | succ l ih =>
      intro c hc h0
      have nx := ih (c + 1) (by omega) (by omega)
      have sN := fun (z : b = -1) => layA_stN (I := X) (a := b) (n := n + wa) z h0
      have sC := fun (z : b ≠ -1) => layA_stC (I := X) (a := b) (n := n + wa) z h0 (by have := hb z; omega)
      clear ih
      refine VW.iload (pc' := 48) d_Model_lays_46 rfl rfl ?_
      refine VW.iload (pc' := 50) d_Model_lays_48 rfl rfl ?_
      refine VW.icmp_ge (tgt := 91) (pc' := 53) d_Model_lays_50 rfl rfl (fun c50 => ?_) (fun c50 => ?_)
      · exfalso; omega
      · refine VW.aload_n (pc' := 54) d_Model_lays_53 rfl rfl ?_
        refine VW.gP (ci := 11) (T := T11) (N := 94) (k := 70) (k' := 70) (pc' := 57) d_Model_lays_54 rfl lk_Model_178 in11 rfl rfl rfl rfl (hM.k rfl) (hM.p (r := some 270) 70 rfl rfl) ?_
        refine VW.iload_n (pc' := 58) d_Model_lays_57 rfl rfl ?_
        refine VW.iload_n (pc' := 59) d_Model_lays_58 rfl rfl ?_
        refine VW.iadd (pc' := 60) d_Model_lays_59 rfl (by omega) ?_
        refine VW.iload (pc' := 62) d_Model_lays_60 rfl rfl ?_
        refine VW.iadd (pc' := 63) d_Model_lays_62 rfl (by omega) ?_
        refine VW.iload (pc' := 65) d_Model_lays_63 rfl rfl ?_
        refine VW.iconst (pc' := 66) d_Model_lays_65 rfl (by decide) ?_
        refine VW.icmp_ne (tgt := 74) (pc' := 69) d_Model_lays_66 rfl rfl (fun c66 => ?_) (fun c66 => ?_)
        · have hb1 := hb c66
          refine VW.aload_n (pc' := 75) d_Model_lays_74 rfl rfl ?_
          refine VW.gP (ci := 11) (T := T11) (N := 94) (k := 70) (k' := 70) (pc' := 78) d_Model_lays_75 rfl lk_Model_178 in11 rfl rfl rfl rfl (hM.k rfl) (hM.p (r := some 270) 70 rfl rfl) ?_
          refine VW.iload (pc' := 80) d_Model_lays_78 rfl rfl ?_
          refine VW.iload (pc' := 82) d_Model_lays_80 rfl rfl ?_
          refine VW.iadd (pc' := 83) d_Model_lays_82 rfl (by omega) ?_
          refine VW.ild (pc' := 84) d_Model_lays_83 rfl (hM.k rfl) (by omega) (by omega) (by first | exact layA_out (Or.inr (Or.inl (by omega))) | rfl) ?_
          refine VW.iast (pc' := 85) d_Model_lays_84 rfl (hM.k rfl) (by omega) (by omega) ?_
          refine VW.nrm ?_
          first | rw [sN c66] | rw [sC c66]
          refine VW.iinc (pc' := 88) d_Model_lays_85 rfl rfl rfl (by omega) ?_
          refine VW.goto (pc' := 46) d_Model_lays_88 rfl ?_
          refine VW.nrm ?_
          exact nx
        · refine VW.ldc (pc' := 71) (z := -2147483648) d_Model_lays_69 rfl lk_Model_246 (by decide) (by decide) ?_
          refine VW.goto (pc' := 84) d_Model_lays_71 rfl ?_
          refine VW.iast (pc' := 85) d_Model_lays_84 rfl (hM.k rfl) (by omega) (by omega) ?_
          refine VW.nrm ?_
          first | rw [sN c66] | rw [sC c66]
          refine VW.iinc (pc' := 88) d_Model_lays_85 rfl rfl rfl (by omega) ?_
          refine VW.goto (pc' := 46) d_Model_lays_88 rfl ?_
          refine VW.nrm ?_
          exact nx
  have loop1 : ∀ (l : Nat) (c : Int), c + l = wa → 0 ≤ c → VW m_Model_lays false (rmv 0 0) (ex K P J (layB I n a wa b wb) (.inl none)) K P J (layA I a n c) 0 0 3 [(0, vR (some 100)), (1, vI n), (2, vI a), (3, vI wa), (4, vI b), (5, vI wb), (6, vI c)] [] := by
    intro l
    induction l with
    | zero =>
      intro c hc h0
      have ec : c = wa := by omega
      subst ec
      have l2 := loop2 _ rfl wb.toNat 0 (by omega) (by omega)
      rw [layA_0] at l2
      clear loop2
      refine VW.iload (pc' := 5) d_Model_lays_3 rfl rfl ?_
      refine VW.iload_n (pc' := 6) d_Model_lays_5 rfl rfl ?_
      refine VW.icmp_ge (tgt := 43) (pc' := 9) d_Model_lays_6 rfl rfl (fun c6 => ?_) (fun c6 => ?_)
      · refine VW.iconst (pc' := 44) d_Model_lays_43 rfl (by decide) ?_
        refine VW.istore (pc' := 46) d_Model_lays_44 rfl rfl ?_
        refine VW.nrm ?_
        exact l2
      · exfalso; omega
    | succ l ih =>
      intro c hc h0
      have nx := ih (c + 1) (by omega) (by omega)
      have sN := fun (z : a = -1) => layA_stN (I := I) (a := a) (n := n) z h0
      have sC := fun (z : a ≠ -1) => layA_stC (I := I) (a := a) (n := n) z h0 (by have := ha z; omega)
      clear ih loop2
      refine VW.iload (pc' := 5) d_Model_lays_3 rfl rfl ?_
      refine VW.iload_n (pc' := 6) d_Model_lays_5 rfl rfl ?_
      refine VW.icmp_ge (tgt := 43) (pc' := 9) d_Model_lays_6 rfl rfl (fun c6 => ?_) (fun c6 => ?_)
      · exfalso; omega
      · refine VW.aload_n (pc' := 10) d_Model_lays_9 rfl rfl ?_
        refine VW.gP (ci := 11) (T := T11) (N := 94) (k := 70) (k' := 70) (pc' := 13) d_Model_lays_10 rfl lk_Model_178 in11 rfl rfl rfl rfl (hM.k rfl) (hM.p (r := some 270) 70 rfl rfl) ?_
        refine VW.iload_n (pc' := 14) d_Model_lays_13 rfl rfl ?_
        refine VW.iload (pc' := 16) d_Model_lays_14 rfl rfl ?_
        refine VW.iadd (pc' := 17) d_Model_lays_16 rfl (by omega) ?_
        refine VW.iload_n (pc' := 18) d_Model_lays_17 rfl rfl ?_
        refine VW.iconst (pc' := 19) d_Model_lays_18 rfl (by decide) ?_
        refine VW.icmp_ne (tgt := 27) (pc' := 22) d_Model_lays_19 rfl rfl (fun c19 => ?_) (fun c19 => ?_)
        · have ha1 := ha c19
          refine VW.aload_n (pc' := 28) d_Model_lays_27 rfl rfl ?_
          refine VW.gP (ci := 11) (T := T11) (N := 94) (k := 70) (k' := 70) (pc' := 31) d_Model_lays_28 rfl lk_Model_178 in11 rfl rfl rfl rfl (hM.k rfl) (hM.p (r := some 270) 70 rfl rfl) ?_
          refine VW.iload_n (pc' := 32) d_Model_lays_31 rfl rfl ?_
          refine VW.iload (pc' := 34) d_Model_lays_32 rfl rfl ?_
          refine VW.iadd (pc' := 35) d_Model_lays_34 rfl (by omega) ?_
          refine VW.ild (pc' := 36) d_Model_lays_35 rfl (hM.k rfl) (by omega) (by omega) (by first | exact layA_out (Or.inr (Or.inl (by omega))) | rfl) ?_
          refine VW.iast (pc' := 37) d_Model_lays_36 rfl (hM.k rfl) (by omega) (by omega) ?_
          refine VW.nrm ?_
          first | rw [sN c19] | rw [sC c19]
          refine VW.iinc (pc' := 40) d_Model_lays_37 rfl rfl rfl (by omega) ?_
          refine VW.goto (pc' := 3) d_Model_lays_40 rfl ?_
          refine VW.nrm ?_
          exact nx
        · refine VW.ldc (pc' := 24) (z := -2147483648) d_Model_lays_22 rfl lk_Model_246 (by decide) (by decide) ?_
          refine VW.goto (pc' := 36) d_Model_lays_24 rfl ?_
          refine VW.iast (pc' := 37) d_Model_lays_36 rfl (hM.k rfl) (by omega) (by omega) ?_
          refine VW.nrm ?_
          first | rw [sN c19] | rw [sC c19]
          refine VW.iinc (pc' := 40) d_Model_lays_37 rfl rfl rfl (by omega) ?_
          refine VW.goto (pc' := 3) d_Model_lays_40 rfl ?_
          refine VW.nrm ?_
          exact nx
  have l := loop1 wa.toNat 0 (by omega) (by omega)
  rw [layA_0] at l
  clear loop1 loop2
  refine VW.iconst (pc' := 1) d_Model_lays_0 rfl (by decide) ?_
  refine VW.istore (pc' := 3) d_Model_lays_1 rfl rfl ?_
  refine VW.nrm ?_
  exact l
theorem rowAt_eq {a w : Nat} {b p : Int} : rowAt I a b w = rowAt I a p w ↔ ∀ c : Int, 0 ≤ c → c < w → I a (b + c) = I a (p + c) := by
  constructor
  · intro h c h0 h1
    rw [← nth_rowAt (I := I) (a := a) (b := b) h0 h1, h, nth_rowAt h0 h1]
  · intro h
    exact rowAt_congr h
theorem seg_mem {a w n : Nat} {b : Int} {r : List Int} : r ∈ seg I a b w n ↔ ∃ k : Nat, k < n ∧ rowAt I a (b + (w : Int) * (k : Int)) w = r := by
  unfold seg
  rw [List.mem_map]
  constructor
  · rintro ⟨k, h, e⟩; exact ⟨k, List.mem_range.1 h, e⟩
  · rintro ⟨k, h, e⟩; exact ⟨k, List.mem_range.2 h, e⟩
theorem sp_Model_hasRow {b p : Int} {n w : Nat} (hM : MW K P) (hn : n ≤ 2000) (hw : w ≤ 10) (hb : 0 ≤ b ∧ b + (w : Int) * (n : Int) ≤ 800000) (hp : 0 ≤ p ∧ p + w ≤ 800000) : Sp m_Model_hasRow false (rmv 0 0) (ex K P J I (.inl (some (vI (bI (rowAt I 270 p w ∈ seg I 270 b w n)))))) K P J I [vR (some 100), vI b, vI (n : Int), vI (w : Int), vI p] := by
  refine Sp.ofV (by decide) (Or.inr rfl) rfl ?_
  have hwn : (w : Int) * (n : Int) ≤ 10 * 2000 := mulUp (by omega) (by omega) (by omega) (by omega)
  have loop : ∀ (l k : Nat), k + l = n → (∀ j : Nat, j < k → rowAt I 270 (b + (w : Int) * (j : Int)) w ≠ rowAt I 270 p w) → VW m_Model_hasRow false (rmv 0 0) (ex K P J I (.inl (some (vI (bI (rowAt I 270 p w ∈ seg I 270 b w n)))))) K P J I 0 0 3 [(0, vR (some 100)), (1, vI b), (2, vI (n : Int)), (3, vI (w : Int)), (4, vI p), (5, vI (k : Int))] [] := by
    intro l
    induction l with
    | zero =>
      intro k hk hj
      have no : ¬ rowAt I 270 p w ∈ seg I 270 b w n := fun z => by
        obtain ⟨j, h1, h2⟩ := seg_mem.1 z
        exact hj j (by omega) h2
      refine VW.iload (pc' := 5) d_Model_hasRow_3 rfl rfl ?_
      refine VW.iload_n (pc' := 6) d_Model_hasRow_5 rfl rfl ?_
      refine VW.icmp_ge (tgt := 79) (pc' := 9) d_Model_hasRow_6 rfl rfl (fun c6 => ?_) (fun c6 => ?_)
      · refine VW.iconst (pc' := 80) d_Model_hasRow_79 rfl (by decide) ?_
        exact VW.iret d_Model_hasRow_80 rfl rfl (Nat.zero_le _) (Nat.zero_le _) (by rw [bI0 no]; exact ex_rf)
      · exfalso; omega
    | succ l ih =>
      intro k hk hj
      have s1 := mulStep (w := (w : Int)) (k := (k : Int)) (n := (n : Int)) (by omega) (by omega)
      have s3 := mulNN (w := (w : Int)) (k := (k : Int)) (by omega) (by omega)
      have ek : ((k + 1 : Nat) : Int) = (k : Int) + 1 := by omega
      have hit : (∀ c : Int, 0 ≤ c → c < w → I 270 (b + (w : Int) * (k : Int) + c) = I 270 (p + c)) → rowAt I 270 p w ∈ seg I 270 b w n := fun z => seg_mem.2 ⟨k, by omega, rowAt_eq.2 z⟩
      have miss : (¬ ∀ c : Int, 0 ≤ c → c < w → I 270 (b + (w : Int) * (k : Int) + c) = I 270 (p + c)) → VW m_Model_hasRow false (rmv 0 0) (ex K P J I (.inl (some (vI (bI (rowAt I 270 p w ∈ seg I 270 b w n)))))) K P J I 0 0 3 [(0, vR (some 100)), (1, vI b), (2, vI (n : Int)), (3, vI (w : Int)), (4, vI p), (5, vI ((k : Int) + 1))] [] := fun z => by
        have := ih (k + 1) (by omega) (fun j h1 => by
          by_cases e : j = k
          · subst e; exact fun y => z (rowAt_eq.1 y)
          · exact hj j (by omega))
        rw [ek] at this
        exact this
      clear ih hj
      have cols : ∀ (j : Nat) (c is : Int), c + j = w → 0 ≤ c → andI (fun c => I 270 (b + (w : Int) * (k : Int) + c) = I 270 (p + c)) 0 c is → VW m_Model_hasRow false (rmv 0 0) (ex K P J I (.inl (some (vI (bI (rowAt I 270 p w ∈ seg I 270 b w n)))))) K P J I 0 0 15 [(0, vR (some 100)), (1, vI b), (2, vI (n : Int)), (3, vI (w : Int)), (4, vI p), (5, vI (k : Int)), (6, vI is), (7, vI c)] [] := by
        intro j
        have yes : ∀ c is : Int, c = w → andI (fun c => I 270 (b + (w : Int) * (k : Int) + c) = I 270 (p + c)) 0 c is → is ≠ 0 → rowAt I 270 p w ∈ seg I 270 b w n := fun c is hc hi h0 => hit (fun q a d => by
          rcases hi with ⟨-, h⟩ | ⟨h, -⟩
          · exact h q a (by omega)
          · exact absurd h h0)
        have no : ∀ c is : Int, c ≤ w → andI (fun c => I 270 (b + (w : Int) * (k : Int) + c) = I 270 (p + c)) 0 c is → is = 0 → VW m_Model_hasRow false (rmv 0 0) (ex K P J I (.inl (some (vI (bI (rowAt I 270 p w ∈ seg I 270 b w n)))))) K P J I 0 0 3 [(0, vR (some 100)), (1, vI b), (2, vI (n : Int)), (3, vI (w : Int)), (4, vI p), (5, vI ((k : Int) + 1))] [] := fun c is hc hi h0 => miss (fun q => by
          rcases hi with ⟨h, -⟩ | ⟨-, z, h1, h2, h3⟩
          · omega
          · exact h3 (q z h1 (by omega)))
        clear hit miss
        induction j with
        | zero =>
          intro c is hc h0 hi
          have y := yes c is (by omega) hi
          have nn := no c is (by omega) hi
          clear yes no
          refine VW.iload (pc' := 17) d_Model_hasRow_15 rfl rfl ?_
          refine VW.iload_n (pc' := 18) d_Model_hasRow_17 rfl rfl ?_
          refine VW.icmp_ge (tgt := 66) (pc' := 21) d_Model_hasRow_18 rfl rfl (fun c18 => ?_) (fun c18 => ?_)
          · refine VW.iload (pc' := 68) d_Model_hasRow_66 rfl rfl ?_
            refine VW.if_eq (tgt := 73) (pc' := 71) d_Model_hasRow_68 rfl rfl (fun c68 => ?_) (fun c68 => ?_)
            · try have e68 := bIe c68
              refine VW.iinc (pc' := 76) d_Model_hasRow_73 rfl rfl rfl (by omega) ?_
              refine VW.goto (pc' := 3) d_Model_hasRow_76 rfl ?_
              refine VW.pick [0, 1, 2, 3, 4, 5] ?_
              exact nn c68
            · try have e68 := bIn c68
              refine VW.iconst (pc' := 72) d_Model_hasRow_71 rfl (by decide) ?_
              exact VW.iret d_Model_hasRow_72 rfl rfl (Nat.zero_le _) (Nat.zero_le _) (by rw [bI1 (y c68)]; exact ex_rf)
          · exfalso; omega
        | succ j ihc =>
          intro c is hc h0 hi
          have nn := no c is (by omega) hi
          refine VW.iload (pc' := 17) d_Model_hasRow_15 rfl rfl ?_
          refine VW.iload_n (pc' := 18) d_Model_hasRow_17 rfl rfl ?_
          refine VW.icmp_ge (tgt := 66) (pc' := 21) d_Model_hasRow_18 rfl rfl (fun c18 => ?_) (fun c18 => ?_)
          · refine VW.iload (pc' := 68) d_Model_hasRow_66 rfl rfl ?_
            refine VW.if_eq (tgt := 73) (pc' := 71) d_Model_hasRow_68 rfl rfl (fun c68 => ?_) (fun c68 => ?_)
            · try have e68 := bIe c68
              refine VW.iinc (pc' := 76) d_Model_hasRow_73 rfl rfl rfl (by omega) ?_
              refine VW.goto (pc' := 3) d_Model_hasRow_76 rfl ?_
              refine VW.pick [0, 1, 2, 3, 4, 5] ?_
              first | exact nn c23 | (exfalso; omega)
            · try have e68 := bIn c68
              exfalso; omega
          · refine VW.iload (pc' := 23) d_Model_hasRow_21 rfl rfl ?_
            refine VW.if_eq (tgt := 66) (pc' := 26) d_Model_hasRow_23 rfl rfl (fun c23 => ?_) (fun c23 => ?_)
            · try have e23 := bIe c23
              refine VW.iload (pc' := 68) d_Model_hasRow_66 rfl rfl ?_
              refine VW.if_eq (tgt := 73) (pc' := 71) d_Model_hasRow_68 rfl rfl (fun c68 => ?_) (fun c68 => ?_)
              · try have e68 := bIe c68
                refine VW.iinc (pc' := 76) d_Model_hasRow_73 rfl rfl rfl (by omega) ?_
                refine VW.goto (pc' := 3) d_Model_hasRow_76 rfl ?_
                refine VW.pick [0, 1, 2, 3, 4, 5] ?_
                first | exact nn c23 | (exfalso; omega)
              · try have e68 := bIn c68
                exfalso; omega
            · try have e23 := bIn c23
              refine VW.aload_n (pc' := 27) d_Model_hasRow_26 rfl rfl ?_
              refine VW.gP (ci := 11) (T := T11) (N := 94) (k := 70) (k' := 70) (pc' := 30) d_Model_hasRow_27 rfl lk_Model_178 in11 rfl rfl rfl rfl (hM.k rfl) (hM.p (r := some 270) 70 rfl rfl) ?_
              refine VW.iload_n (pc' := 31) d_Model_hasRow_30 rfl rfl ?_
              refine VW.iload_n (pc' := 32) d_Model_hasRow_31 rfl rfl ?_
              refine VW.iload (pc' := 34) d_Model_hasRow_32 rfl rfl ?_
              refine VW.imul (pc' := 35) d_Model_hasRow_34 rfl (by omega) ?_
              refine VW.iadd (pc' := 36) d_Model_hasRow_35 rfl (by omega) ?_
              refine VW.iload (pc' := 38) d_Model_hasRow_36 rfl rfl ?_
              refine VW.iadd (pc' := 39) d_Model_hasRow_38 rfl (by omega) ?_
              refine VW.ild (pc' := 40) d_Model_hasRow_39 rfl (hM.k rfl) (by omega) (by omega) (by first | assumption | (simp [up2] <;> rfl) | rfl) ?_
              refine VW.aload_n (pc' := 41) d_Model_hasRow_40 rfl rfl ?_
              refine VW.gP (ci := 11) (T := T11) (N := 94) (k := 70) (k' := 70) (pc' := 44) d_Model_hasRow_41 rfl lk_Model_178 in11 rfl rfl rfl rfl (hM.k rfl) (hM.p (r := some 270) 70 rfl rfl) ?_
              refine VW.iload (pc' := 46) d_Model_hasRow_44 rfl rfl ?_
              refine VW.iload (pc' := 48) d_Model_hasRow_46 rfl rfl ?_
              refine VW.iadd (pc' := 49) d_Model_hasRow_48 rfl (by omega) ?_
              refine VW.ild (pc' := 50) d_Model_hasRow_49 rfl (hM.k rfl) (by omega) (by omega) (by first | assumption | (simp [up2] <;> rfl) | rfl) ?_
              refine VW.icmp_ne (tgt := 57) (pc' := 53) d_Model_hasRow_50 rfl rfl (fun c50 => ?_) (fun c50 => ?_)
              · refine VW.iconst (pc' := 58) d_Model_hasRow_57 rfl (by decide) ?_
                refine VW.istore (pc' := 60) d_Model_hasRow_58 rfl rfl ?_
                refine VW.iinc (pc' := 63) d_Model_hasRow_60 rfl rfl rfl (by omega) ?_
                refine VW.goto (pc' := 15) d_Model_hasRow_63 rfl ?_
                refine VW.nrm ?_
                first | exact ihc _ _ (by omega) (by omega) (hi.yes c23 c50) | exact ihc _ _ (by omega) (by omega) (andI.no h0 c50)
              · refine VW.iconst (pc' := 54) d_Model_hasRow_53 rfl (by decide) ?_
                refine VW.goto (pc' := 58) d_Model_hasRow_54 rfl ?_
                refine VW.istore (pc' := 60) d_Model_hasRow_58 rfl rfl ?_
                refine VW.iinc (pc' := 63) d_Model_hasRow_60 rfl rfl rfl (by omega) ?_
                refine VW.goto (pc' := 15) d_Model_hasRow_63 rfl ?_
                refine VW.nrm ?_
                first | exact ihc _ _ (by omega) (by omega) (hi.yes c23 c50) | exact ihc _ _ (by omega) (by omega) (andI.no h0 c50)
      have c0 := cols w 0 1 (by omega) (by omega) andI.z
      clear cols miss
      refine VW.iload (pc' := 5) d_Model_hasRow_3 rfl rfl ?_
      refine VW.iload_n (pc' := 6) d_Model_hasRow_5 rfl rfl ?_
      refine VW.icmp_ge (tgt := 79) (pc' := 9) d_Model_hasRow_6 rfl rfl (fun c6 => ?_) (fun c6 => ?_)
      · exfalso; omega
      · refine VW.iconst (pc' := 10) d_Model_hasRow_9 rfl (by decide) ?_
        refine VW.istore (pc' := 12) d_Model_hasRow_10 rfl rfl ?_
        refine VW.iconst (pc' := 13) d_Model_hasRow_12 rfl (by decide) ?_
        refine VW.istore (pc' := 15) d_Model_hasRow_13 rfl rfl ?_
        refine VW.nrm ?_
        exact c0
  have l := loop n 0 (by omega) (fun j h => by omega)
  clear loop
  refine VW.iconst (pc' := 1) d_Model_hasRow_0 rfl (by decide) ?_
  refine VW.istore (pc' := 3) d_Model_hasRow_1 rfl rfl ?_
  refine VW.nrm ?_
  exact l
end
