section
variable {K : KT} {P : PT} {J I : IT}
/-- rows M made from m on, of width w -/
def MJ (I T : IT) (m : Int) (w g : Nat) (M : List (List Int)) : Prop := seg T 270 m w g = M ∧ ∀ (o : Nat) (q : Int), ¬ (o = 270 ∧ m ≤ q) → T o q = I o q
theorem MJ.len {T : IT} {m : Int} {w g : Nat} {M : List (List Int)} (h : MJ I T m w g M) : M.length = g := by rw [← h.1]; exact seg_len
theorem MJ.add {T : IT} {m a b : Int} {w g va vb : Nat} {M : List (List Int)} (h : MJ I T m w g M) (hw : w = va + vb) (ha : a ≠ -1 → 0 ≤ a ∧ a + va ≤ m) (hb : b ≠ -1 → 0 ≤ b ∧ b + vb ≤ m) : MJ I (layB T (m + (w : Int) * (g : Int)) a va b vb) m w (g + 1) (M ++ [part I a va ++ part I b vb]) := by
  have g0 := mulNN (w := (w : Int)) (k := (g : Int)) (by omega) (by omega)
  refine ⟨?_, fun o q hq => by rw [layB_out (by omega) (by omega) (by omega)]; exact h.2 o q hq⟩
  rw [seg_succ]
  congr 1
  · rw [← h.1]
    exact seg_congr (fun q a1 c => layB_out (by omega) (by omega) (Or.inr (Or.inl (by omega))))
  · congr 1
    have e := layB_row (I := T) (n := m + (w : Int) * (g : Int)) (a := a) (b := b) (wa := va) (wb := vb) (fun z => by have := hb z; omega)
    rw [← hw] at e
    rw [e, part_of (fun z c h0 h1 => h.2 270 _ (by have := ha z; omega)), part_of (fun z c h0 h1 => h.2 270 _ (by have := hb z; omega))]
theorem part_row {a : Int} {w : Nat} (h : 0 ≤ a) : part I a w = rowAt I 270 a w := if_neg (by omega)
theorem part_nul {w : Nat} : part I (-1) w = List.replicate w (-2147483648) := if_pos rfl
/-- two rows match -/
def mt2 (B C : Int) (x y : List Int) : Prop := cmp3 (nth x B) 1 (nth y C) = 1
def nul (w : Nat) : List Int := List.replicate w (-2147483648)
def jM (how : Int) (x : List Int) (F : List (List Int)) : List (List Int) := if how ≤ 2 then F.map (fun y => x ++ y) else []
/-- what a left row that met n rows gives besides the pairs -/
def jT (how : Int) (wb : Nat) (x : List Int) (n : Nat) : List (List Int) := if (how = 3 ∧ 0 < n) ∨ (how = 4 ∧ n = 0) then [x] else if (how = 1 ∨ how = 2) ∧ n = 0 then [x ++ nul wb] else []
noncomputable def jRow (how B C : Int) (wb : Nat) (R : List (List Int)) (x : List Int) : List (List Int) := jM how x (flt (mt2 B C x) R) ++ jT how wb x (flt (mt2 B C x) R).length
noncomputable def jLeft (how B C : Int) (wb : Nat) (L R : List (List Int)) : List (List Int) := L.flatMap (jRow how B C wb R)
noncomputable def jRight (how B C : Int) (wa : Nat) (L R : List (List Int)) : List (List Int) := if how = 2 then (flt (fun y => ¬ ∃ x ∈ L, mt2 B C x y) R).map (fun y => nul wa ++ y) else []
noncomputable def joinL (how B C : Int) (wa wb : Nat) (L R : List (List Int)) : List (List Int) := jLeft how B C wb L R ++ jRight how B C wa L R
theorem jM_add {how : Int} {x y : List Int} {F : List (List Int)} (h : how ≤ 2) : jM how x (F ++ [y]) = jM how x F ++ [x ++ y] := by
  unfold jM
  rw [if_pos h, if_pos h, List.map_append]; rfl
theorem jM_no {how : Int} {x y : List Int} {F : List (List Int)} (h : ¬ how ≤ 2) : jM how x (F ++ [y]) = jM how x F := by
  unfold jM
  rw [if_neg h, if_neg h]
theorem jLeft_snoc {how B C : Int} {wb : Nat} {L R : List (List Int)} {x : List Int} : jLeft how B C wb (L ++ [x]) R = jLeft how B C wb L R ++ jRow how B C wb R x := by
  unfold jLeft
  rw [List.flatMap_append]
  congr 1
  exact List.append_nil _
theorem jT_1 {how : Int} {wb n : Nat} {x : List Int} (h : (how = 3 ∧ 0 < n) ∨ (how = 4 ∧ n = 0)) : jT how wb x n = [x] := if_pos h
theorem jT_2 {how : Int} {wb n : Nat} {x : List Int} (h : (how = 1 ∨ how = 2) ∧ n = 0) : jT how wb x n = [x ++ nul wb] := (if_neg (by omega)).trans (if_pos h)
theorem jT_0 {how : Int} {wb n : Nat} {x : List Int} (h : ¬ ((how = 3 ∧ 0 < n) ∨ (how = 4 ∧ n = 0))) (h2 : ¬ ((how = 1 ∨ how = 2) ∧ n = 0)) : jT how wb x n = [] := (if_neg h).trans (if_neg h2)
theorem jn_last {x r a b m : Int} {wa wb w n1 n2 : Nat} (hM : MW K P) (hx : 0 ≤ x ∧ x < 252) (hr : I 100 71 = r + 2) (h0 : 0 ≤ r ∧ r < 10) (hw1 : I 274 r = wa) (hw2 : I 274 (r + 1) = wb) (hn1 : I 273 r = n1) (hn2 : I 273 (r + 1) = n2) (ha : I 272 r = a) (hb : I 272 (r + 1) = b) (hp : 0 ≤ a ∧ b = a + (wa : Int) * (n1 : Int) ∧ b + (wb : Int) * (n2 : Int) ≤ 600000) (hW : wa ≤ 10 ∧ wb ≤ 10 ∧ w ≤ 10) (hwe : (2 < I 257 x → w = wa) ∧ (I 257 x ≤ 2 → w = wa + wb)) (hN : n1 ≤ 512 ∧ n2 ≤ 512 ∧ (n1 : Int) * (n2 : Int) ≤ 512) (hB : 0 ≤ I 258 x ∧ I 258 x < wa) (hC : 0 ≤ I 259 x ∧ I 259 x < wb) (hJ : (joinL (I 257 x) (I 258 x) (I 259 x) wa wb (seg I 270 a wa n1) (seg I 270 b wb n2)).length ≤ 1000) (hm : m = b + (wb : Int) * (n2 : Int)) : ∀ (g : Nat) (j : Int) (T : IT), MJ I T m w g (joinL (I 257 x) (I 258 x) (I 259 x) wa wb (seg I 270 a wa n1) (seg I 270 b wb n2)) → VW m_Model_joins false (rmv 1 26) (exU K P J (.inl none) (fun I' => (I' 100 71 = r + 1 ∧ I' 273 r = (joinL (I 257 x) (I 258 x) (I 259 x) wa wb (seg I 270 a wa n1) (seg I 270 b wb n2)).length ∧ I' 274 r = w ∧ seg I' 270 a w (joinL (I 257 x) (I 258 x) (I 259 x) wa wb (seg I 270 a wa n1) (seg I 270 b wb n2)).length = (joinL (I 257 x) (I 258 x) (I 259 x) wa wb (seg I 270 a wa n1) (seg I 270 b wb n2))) ∧ ∀ (o : Nat) (q : Int), ¬ (o = 270 ∧ a ≤ q) → ¬ (o = 273 ∧ q = r) → ¬ (o = 274 ∧ q = r) → ¬ (o = 100 ∧ q = 71) → I' o q = I o q)) K P J T 0 0 491 [(0, vR (some 100)), (1, vI x), (2, vI (I 257 x)), (3, vI a), (4, vI b), (5, vI (wa : Int)), (6, vI (wb : Int)), (7, vI (w : Int)), (8, vI m), (9, vI (g : Int)), (10, vI j)] [] := by
  have q1 : (wa : Int) * (n1 : Int) ≤ 10 * 512 := mulUp (by omega) (by omega) (by omega) (by omega)
  have q2 : (wb : Int) * (n2 : Int) ≤ 10 * 512 := mulUp (by omega) (by omega) (by omega) (by omega)
  have q10 := mulNN (w := (wa : Int)) (k := (n1 : Int)) (by omega) (by omega)
  have q20 := mulNN (w := (wb : Int)) (k := (n2 : Int)) (by omega) (by omega)
  have qN0 := mulNN (w := (n1 : Int)) (k := (n2 : Int)) (by omega) (by omega)
  have rdL : ∀ (T : IT), (∀ (o : Nat) (q : Int), ¬ (o = 270 ∧ m ≤ q) → T o q = I o q) → ∀ i : Nat, i < n1 → T 270 (a + (wa : Int) * (i : Int) + I 258 x) = nth (rowAt I 270 (a + (wa : Int) * (i : Int)) wa) (I 258 x) ∧ 0 ≤ (wa : Int) * (i : Int) ∧ (wa : Int) * (i : Int) + wa ≤ (wa : Int) * (n1 : Int) := fun T fr i hi => by
    have s1 := mulStep (w := (wa : Int)) (k := (i : Int)) (n := (n1 : Int)) (by omega) (by omega)
    have s2 := mulNN (w := (wa : Int)) (k := (i : Int)) (by omega) (by omega)
    exact ⟨by rw [nth_rowAt hB.1 hB.2]; exact fr 270 _ (by omega), s2, s1⟩
  have rdR : ∀ (T : IT), (∀ (o : Nat) (q : Int), ¬ (o = 270 ∧ m ≤ q) → T o q = I o q) → ∀ j : Nat, j < n2 → T 270 (b + (wb : Int) * (j : Int) + I 259 x) = nth (rowAt I 270 (b + (wb : Int) * (j : Int)) wb) (I 259 x) ∧ 0 ≤ (wb : Int) * (j : Int) ∧ (wb : Int) * (j : Int) + wb ≤ (wb : Int) * (n2 : Int) := fun T fr j hj => by
    have s1 := mulStep (w := (wb : Int)) (k := (j : Int)) (n := (n2 : Int)) (by omega) (by omega)
    have s2 := mulNN (w := (wb : Int)) (k := (j : Int)) (by omega) (by omega)
    exact ⟨by rw [nth_rowAt hC.1 hC.2]; exact fr 270 _ (by omega), s2, s1⟩
  have gW : ∀ g : Nat, g ≤ 2000 → 0 ≤ (w : Int) * (g : Int) ∧ (w : Int) * (g : Int) ≤ 20000 := fun g hg => by
    have := mulUp (w := (w : Int)) (k := (g : Int)) (W := 10) (n := 2000) (by omega) (by omega) (by omega) (by omega)
    exact ⟨mulNN (by omega) (by omega), by omega⟩
  have last : ∀ (g : Nat) (j : Int) (T : IT), MJ I T m w g (joinL (I 257 x) (I 258 x) (I 259 x) wa wb (seg I 270 a wa n1) (seg I 270 b wb n2)) → VW m_Model_joins false (rmv 1 26) (exU K P J (.inl none) (fun I' => (I' 100 71 = r + 1 ∧ I' 273 r = (joinL (I 257 x) (I 258 x) (I 259 x) wa wb (seg I 270 a wa n1) (seg I 270 b wb n2)).length ∧ I' 274 r = w ∧ seg I' 270 a w (joinL (I 257 x) (I 258 x) (I 259 x) wa wb (seg I 270 a wa n1) (seg I 270 b wb n2)).length = (joinL (I 257 x) (I 258 x) (I 259 x) wa wb (seg I 270 a wa n1) (seg I 270 b wb n2))) ∧ ∀ (o : Nat) (q : Int), ¬ (o = 270 ∧ a ≤ q) → ¬ (o = 273 ∧ q = r) → ¬ (o = 274 ∧ q = r) → ¬ (o = 100 ∧ q = 71) → I' o q = I o q)) K P J T 0 0 491 [(0, vR (some 100)), (1, vI x), (2, vI (I 257 x)), (3, vI a), (4, vI b), (5, vI (wa : Int)), (6, vI (wb : Int)), (7, vI (w : Int)), (8, vI m), (9, vI (g : Int)), (10, vI j)] [] := by
    intro g j T hT
    have gl := hT.len
    have fr := hT.2
    have g71 : T 100 71 = r + 2 := (fr 100 71 (by omega)).trans hr
    have g272 : T 272 (r + 2 - 2) = a := by rw [show r + 2 - 2 = r by omega, fr 272 r (by omega)]; exact ha
    have fin : (mTakes T m g w 2 100 71 = r + 1 ∧ mTakes T m g w 2 273 r = (joinL (I 257 x) (I 258 x) (I 259 x) wa wb (seg I 270 a wa n1) (seg I 270 b wb n2)).length ∧ mTakes T m g w 2 274 r = w ∧ seg (mTakes T m g w 2) 270 a w (joinL (I 257 x) (I 258 x) (I 259 x) wa wb (seg I 270 a wa n1) (seg I 270 b wb n2)).length = (joinL (I 257 x) (I 258 x) (I 259 x) wa wb (seg I 270 a wa n1) (seg I 270 b wb n2))) ∧ ∀ (o : Nat) (q : Int), ¬ (o = 270 ∧ a ≤ q) → ¬ (o = 273 ∧ q = r) → ¬ (o = 274 ∧ q = r) → ¬ (o = 100 ∧ q = 71) → mTakes T m g w 2 o q = I o q := by
      rw [← hT.1, seg_len]
      unfold mTakes
      rw [g71, g272, show r + 2 - (2 - 1) - 1 = r by omega]
      refine ⟨⟨?_, ?_, up2_eq _ _ _ _, ?_⟩, fun o q h1 h2 h3 h4 => ?_⟩
      · rw [up2_o _ _ _ _ (by decide), up2_o _ _ _ _ (by decide), up2_eq]; omega
      · rw [up2_o _ _ _ _ (by decide), up2_eq]
      · refine seg_congr (fun q a1 c => ?_)
        rw [up2_o _ _ _ _ (by decide), up2_o _ _ _ _ (by decide), up2_o _ _ _ _ (by decide), cpyI_in (by omega) (by rw [Int.mul_comm] at c; omega)]
        congr 1; omega
      · rw [show ∀ (X : IT) v, up2 X 274 r v o q = X o q from fun X v => if_neg h3, show ∀ (X : IT) v, up2 X 273 r v o q = X o q from fun X v => if_neg h2, show ∀ (X : IT) v, up2 X 100 71 v o q = X o q from fun X v => if_neg h4, cpyI_out (by omega)]
        exact fr o q (by omega)
    have tk := sp_Model_takes (K := K) (P := P) (J := J) (I := T) (m := m) (n := g) (w := w) (d := 2) hM (by omega) (by omega) (by rw [g71, g272]; omega) (by omega) (by omega) (by omega)
    clear hT fr rdL rdR gW hJ
    refine VW.aload_n (pc' := 492) d_Model_joins_491 rfl rfl ?_
    refine VW.iload (pc' := 494) d_Model_joins_492 rfl rfl ?_
    refine VW.iload (pc' := 496) d_Model_joins_494 rfl rfl ?_
    refine VW.iload (pc' := 498) d_Model_joins_496 rfl rfl ?_
    refine VW.iconst (pc' := 499) d_Model_joins_498 rfl (by decide) ?_
    refine VW.cV (ci := 11) (T := T11) (N := 94) (pc' := 502) d_Model_joins_499 rfl mv_Model_takes lk_Model_450 rfl (hM.k rfl) rfl rfl rfl (Nat.le_refl _) (Nat.le_refl _) (tk) rfl rfl ?_
    exact VW.vret d_Model_joins_502 rfl (Nat.zero_le _) (Nat.zero_le _) (exU_mk fin)
  exact last
theorem jn_right {x r a b m : Int} {wa wb w n1 n2 : Nat} (hM : MW K P) (hx : 0 ≤ x ∧ x < 252) (hr : I 100 71 = r + 2) (h0 : 0 ≤ r ∧ r < 10) (hw1 : I 274 r = wa) (hw2 : I 274 (r + 1) = wb) (hn1 : I 273 r = n1) (hn2 : I 273 (r + 1) = n2) (ha : I 272 r = a) (hb : I 272 (r + 1) = b) (hp : 0 ≤ a ∧ b = a + (wa : Int) * (n1 : Int) ∧ b + (wb : Int) * (n2 : Int) ≤ 600000) (hW : wa ≤ 10 ∧ wb ≤ 10 ∧ w ≤ 10) (hwe : (2 < I 257 x → w = wa) ∧ (I 257 x ≤ 2 → w = wa + wb)) (hN : n1 ≤ 512 ∧ n2 ≤ 512 ∧ (n1 : Int) * (n2 : Int) ≤ 512) (hB : 0 ≤ I 258 x ∧ I 258 x < wa) (hC : 0 ≤ I 259 x ∧ I 259 x < wb) (hJ : (joinL (I 257 x) (I 258 x) (I 259 x) wa wb (seg I 270 a wa n1) (seg I 270 b wb n2)).length ≤ 1000) (hm : m = b + (wb : Int) * (n2 : Int)) : ∀ (l j g : Nat) (T : IT), j + l = n2 → I 257 x = 2 → MJ I T m w g ((jLeft (I 257 x) (I 258 x) (I 259 x) wb (seg I 270 a wa n1) (seg I 270 b wb n2)) ++ (flt (fun y => ¬ ∃ x1 ∈ seg I 270 a wa n1, mt2 (I 258 x) (I 259 x) x1 y) (seg I 270 b wb j)).map (fun y => nul wa ++ y)) → (g : Int) ≤ 1024 + j → VW m_Model_joins false (rmv 1 26) (exU K P J (.inl none) (fun I' => (I' 100 71 = r + 1 ∧ I' 273 r = (joinL (I 257 x) (I 258 x) (I 259 x) wa wb (seg I 270 a wa n1) (seg I 270 b wb n2)).length ∧ I' 274 r = w ∧ seg I' 270 a w (joinL (I 257 x) (I 258 x) (I 259 x) wa wb (seg I 270 a wa n1) (seg I 270 b wb n2)).length = (joinL (I 257 x) (I 258 x) (I 259 x) wa wb (seg I 270 a wa n1) (seg I 270 b wb n2))) ∧ ∀ (o : Nat) (q : Int), ¬ (o = 270 ∧ a ≤ q) → ¬ (o = 273 ∧ q = r) → ¬ (o = 274 ∧ q = r) → ¬ (o = 100 ∧ q = 71) → I' o q = I o q)) K P J T 0 0 344 [(0, vR (some 100)), (1, vI x), (2, vI (I 257 x)), (3, vI a), (4, vI b), (5, vI (wa : Int)), (6, vI (wb : Int)), (7, vI (w : Int)), (8, vI m), (9, vI (g : Int)), (10, vI (j : Int))] [] := by
  have q1 : (wa : Int) * (n1 : Int) ≤ 10 * 512 := mulUp (by omega) (by omega) (by omega) (by omega)
  have q2 : (wb : Int) * (n2 : Int) ≤ 10 * 512 := mulUp (by omega) (by omega) (by omega) (by omega)
  have q10 := mulNN (w := (wa : Int)) (k := (n1 : Int)) (by omega) (by omega)
  have q20 := mulNN (w := (wb : Int)) (k := (n2 : Int)) (by omega) (by omega)
  have qN0 := mulNN (w := (n1 : Int)) (k := (n2 : Int)) (by omega) (by omega)
  have rdL : ∀ (T : IT), (∀ (o : Nat) (q : Int), ¬ (o = 270 ∧ m ≤ q) → T o q = I o q) → ∀ i : Nat, i < n1 → T 270 (a + (wa : Int) * (i : Int) + I 258 x) = nth (rowAt I 270 (a + (wa : Int) * (i : Int)) wa) (I 258 x) ∧ 0 ≤ (wa : Int) * (i : Int) ∧ (wa : Int) * (i : Int) + wa ≤ (wa : Int) * (n1 : Int) := fun T fr i hi => by
    have s1 := mulStep (w := (wa : Int)) (k := (i : Int)) (n := (n1 : Int)) (by omega) (by omega)
    have s2 := mulNN (w := (wa : Int)) (k := (i : Int)) (by omega) (by omega)
    exact ⟨by rw [nth_rowAt hB.1 hB.2]; exact fr 270 _ (by omega), s2, s1⟩
  have rdR : ∀ (T : IT), (∀ (o : Nat) (q : Int), ¬ (o = 270 ∧ m ≤ q) → T o q = I o q) → ∀ j : Nat, j < n2 → T 270 (b + (wb : Int) * (j : Int) + I 259 x) = nth (rowAt I 270 (b + (wb : Int) * (j : Int)) wb) (I 259 x) ∧ 0 ≤ (wb : Int) * (j : Int) ∧ (wb : Int) * (j : Int) + wb ≤ (wb : Int) * (n2 : Int) := fun T fr j hj => by
    have s1 := mulStep (w := (wb : Int)) (k := (j : Int)) (n := (n2 : Int)) (by omega) (by omega)
    have s2 := mulNN (w := (wb : Int)) (k := (j : Int)) (by omega) (by omega)
    exact ⟨by rw [nth_rowAt hC.1 hC.2]; exact fr 270 _ (by omega), s2, s1⟩
  have gW : ∀ g : Nat, g ≤ 2000 → 0 ≤ (w : Int) * (g : Int) ∧ (w : Int) * (g : Int) ≤ 20000 := fun g hg => by
    have := mulUp (w := (w : Int)) (k := (g : Int)) (W := 10) (n := 2000) (by omega) (by omega) (by omega) (by omega)
    exact ⟨mulNN (by omega) (by omega), by omega⟩
  have last := jn_last (J := J) hM hx hr h0 hw1 hw2 hn1 hn2 ha hb hp hW hwe hN hB hC hJ hm
  have right : ∀ (l j g : Nat) (T : IT), j + l = n2 → I 257 x = 2 → MJ I T m w g ((jLeft (I 257 x) (I 258 x) (I 259 x) wb (seg I 270 a wa n1) (seg I 270 b wb n2)) ++ (flt (fun y => ¬ ∃ x1 ∈ seg I 270 a wa n1, mt2 (I 258 x) (I 259 x) x1 y) (seg I 270 b wb j)).map (fun y => nul wa ++ y)) → (g : Int) ≤ 1024 + j → VW m_Model_joins false (rmv 1 26) (exU K P J (.inl none) (fun I' => (I' 100 71 = r + 1 ∧ I' 273 r = (joinL (I 257 x) (I 258 x) (I 259 x) wa wb (seg I 270 a wa n1) (seg I 270 b wb n2)).length ∧ I' 274 r = w ∧ seg I' 270 a w (joinL (I 257 x) (I 258 x) (I 259 x) wa wb (seg I 270 a wa n1) (seg I 270 b wb n2)).length = (joinL (I 257 x) (I 258 x) (I 259 x) wa wb (seg I 270 a wa n1) (seg I 270 b wb n2))) ∧ ∀ (o : Nat) (q : Int), ¬ (o = 270 ∧ a ≤ q) → ¬ (o = 273 ∧ q = r) → ¬ (o = 274 ∧ q = r) → ¬ (o = 100 ∧ q = 71) → I' o q = I o q)) K P J T 0 0 344 [(0, vR (some 100)), (1, vI x), (2, vI (I 257 x)), (3, vI a), (4, vI b), (5, vI (wa : Int)), (6, vI (wb : Int)), (7, vI (w : Int)), (8, vI m), (9, vI (g : Int)), (10, vI (j : Int))] [] := by
    intro l
    induction l with
    | zero =>
      intro j g T hj h2 hT hg
      have ej : j = n2 := by omega
      subst ej
      have lt := fun z => last g z T (by
        rw [show (joinL (I 257 x) (I 258 x) (I 259 x) wa wb (seg I 270 a wa n1) (seg I 270 b wb j)) = (jLeft (I 257 x) (I 258 x) (I 259 x) wb (seg I 270 a wa n1) (seg I 270 b wb j)) ++ (flt (fun y => ¬ ∃ x1 ∈ seg I 270 a wa n1, mt2 (I 258 x) (I 259 x) x1 y) (seg I 270 b wb j)).map (fun y => nul wa ++ y) from by unfold joinL jRight; rw [if_pos h2]]
        exact hT)
      have g71 : T 100 71 = r + 2 := (hT.2 100 71 (by omega)).trans hr
      have g273 : T 273 (r + 2 - 1) = j := by rw [show r + 2 - 1 = r + 1 by omega, hT.2 273 (r + 1) (by omega)]; exact hn2
      clear last hT rdL rdR gW hJ
      refine VW.iload (pc' := 346) d_Model_joins_344 rfl rfl ?_
      refine VW.aload_n (pc' := 347) d_Model_joins_346 rfl rfl ?_
      refine VW.gP (ci := 11) (T := T11) (N := 94) (k := 73) (k' := 73) (pc' := 350) d_Model_joins_347 rfl lk_Model_184 in11 rfl rfl rfl rfl (hM.k rfl) (hM.p (r := some 273) 73 rfl rfl) ?_
      refine VW.aload_n (pc' := 351) d_Model_joins_350 rfl rfl ?_
      refine VW.gI (ci := 11) (T := T11) (N := 94) (k := 71) (k' := 71) (pc' := 354) d_Model_joins_351 rfl lk_Model_434 in11 rfl rfl rfl rfl (hM.k rfl) (by first | exact g71 | exact g273 | exact g273a | exact g258 | exact g259 | exact vL | exact vR1 | rfl) ?_
      refine VW.iconst (pc' := 355) d_Model_joins_354 rfl (by decide) ?_
      refine VW.isub (pc' := 356) d_Model_joins_355 rfl (by omega) ?_
      refine VW.ild (pc' := 357) d_Model_joins_356 rfl (hM.k rfl) (by omega) (by omega) (by first | exact g71 | exact g273 | exact g273a | exact g258 | exact g259 | exact vL | exact vR1 | rfl) ?_
      refine VW.icmp_ge (tgt := 491) (pc' := 360) d_Model_joins_357 rfl rfl (fun c357 => ?_) (fun c357 => ?_)
      · refine VW.pick [0, 1, 2, 3, 4, 5, 6, 7, 8, 9, 10] ?_
        exact lt _
      · exfalso; omega
    | succ l ih =>
      intro j g T hj h2 hT hg
      have g71 : T 100 71 = r + 2 := (hT.2 100 71 (by omega)).trans hr
      have g273 : T 273 (r + 2 - 1) = n2 := by rw [show r + 2 - 1 = r + 1 by omega, hT.2 273 (r + 1) (by omega)]; exact hn2
      have g273a : T 273 (r + 2 - 2) = n1 := by rw [show r + 2 - 2 = r by omega, hT.2 273 r (by omega)]; exact hn1
      have g258 : T 258 x = I 258 x := hT.2 258 x (by omega)
      have g259 : T 259 x = I 259 x := hT.2 259 x (by omega)
      obtain ⟨vR1, s2, s3⟩ := rdR T hT.2 j (by omega)
      have ej : ((j + 1 : Nat) : Int) = (j : Int) + 1 := by omega
      have eg : ((g + 1 : Nat) : Int) = (g : Int) + 1 := by omega
      have gw := gW g (by omega)
      have nY : (¬ ∃ x1 ∈ seg I 270 a wa n1, mt2 (I 258 x) (I 259 x) x1 (rowAt I 270 (b + (wb : Int) * (j : Int)) wb)) → VW m_Model_joins false (rmv 1 26) (exU K P J (.inl none) (fun I' => (I' 100 71 = r + 1 ∧ I' 273 r = (joinL (I 257 x) (I 258 x) (I 259 x) wa wb (seg I 270 a wa n1) (seg I 270 b wb n2)).length ∧ I' 274 r = w ∧ seg I' 270 a w (joinL (I 257 x) (I 258 x) (I 259 x) wa wb (seg I 270 a wa n1) (seg I 270 b wb n2)).length = (joinL (I 257 x) (I 258 x) (I 259 x) wa wb (seg I 270 a wa n1) (seg I 270 b wb n2))) ∧ ∀ (o : Nat) (q : Int), ¬ (o = 270 ∧ a ≤ q) → ¬ (o = 273 ∧ q = r) → ¬ (o = 274 ∧ q = r) → ¬ (o = 100 ∧ q = 71) → I' o q = I o q)) K P J (layB T (m + (w : Int) * (g : Int)) (-1) wa (b + (wb : Int) * (j : Int)) wb) 0 0 344 [(0, vR (some 100)), (1, vI x), (2, vI (I 257 x)), (3, vI a), (4, vI b), (5, vI (wa : Int)), (6, vI (wb : Int)), (7, vI (w : Int)), (8, vI m), (9, vI ((g : Int) + 1)), (10, vI ((j : Int) + 1))] [] := fun z => by
        have hA := hT.add (a := -1) (b := b + (wb : Int) * (j : Int)) (va := wa) (vb := wb) (hwe.2 (by omega)) (fun y => absurd rfl y) (fun y => ⟨by omega, by omega⟩)
        have := ih (j + 1) (g + 1) _ (by omega) h2 (by
          rw [seg_succ, flt_yes z, List.map_append, ← List.append_assoc]
          rw [part_nul, part_row (by omega)] at hA
          exact hA) (by omega)
        rw [ej, eg] at this
        exact this
      have nN : (∃ x1 ∈ seg I 270 a wa n1, mt2 (I 258 x) (I 259 x) x1 (rowAt I 270 (b + (wb : Int) * (j : Int)) wb)) → VW m_Model_joins false (rmv 1 26) (exU K P J (.inl none) (fun I' => (I' 100 71 = r + 1 ∧ I' 273 r = (joinL (I 257 x) (I 258 x) (I 259 x) wa wb (seg I 270 a wa n1) (seg I 270 b wb n2)).length ∧ I' 274 r = w ∧ seg I' 270 a w (joinL (I 257 x) (I 258 x) (I 259 x) wa wb (seg I 270 a wa n1) (seg I 270 b wb n2)).length = (joinL (I 257 x) (I 258 x) (I 259 x) wa wb (seg I 270 a wa n1) (seg I 270 b wb n2))) ∧ ∀ (o : Nat) (q : Int), ¬ (o = 270 ∧ a ≤ q) → ¬ (o = 273 ∧ q = r) → ¬ (o = 274 ∧ q = r) → ¬ (o = 100 ∧ q = 71) → I' o q = I o q)) K P J T 0 0 344 [(0, vR (some 100)), (1, vI x), (2, vI (I 257 x)), (3, vI a), (4, vI b), (5, vI (wa : Int)), (6, vI (wb : Int)), (7, vI (w : Int)), (8, vI m), (9, vI (g : Int)), (10, vI ((j : Int) + 1))] [] := fun z => by
        have := ih (j + 1) g _ (by omega) h2 (by
          rw [seg_succ, flt_no (fun y => y z)]
          exact hT) (by omega)
        rw [ej] at this
        exact this
      have fr := hT.2
      have wsum := hwe.2 (by omega)
      clear ih last hT rdR gW hJ
      have inner : ∀ (l2 i : Nat) (is : Int), i + l2 = n1 → orI (fun q => ∃ i : Nat, (i : Int) = q ∧ mt2 (I 258 x) (I 259 x) (rowAt I 270 (a + (wa : Int) * (i : Int)) wa) (rowAt I 270 (b + (wb : Int) * (j : Int)) wb)) 0 i is → VW m_Model_joins false (rmv 1 26) (exU K P J (.inl none) (fun I' => (I' 100 71 = r + 1 ∧ I' 273 r = (joinL (I 257 x) (I 258 x) (I 259 x) wa wb (seg I 270 a wa n1) (seg I 270 b wb n2)).length ∧ I' 274 r = w ∧ seg I' 270 a w (joinL (I 257 x) (I 258 x) (I 259 x) wa wb (seg I 270 a wa n1) (seg I 270 b wb n2)).length = (joinL (I 257 x) (I 258 x) (I 259 x) wa wb (seg I 270 a wa n1) (seg I 270 b wb n2))) ∧ ∀ (o : Nat) (q : Int), ¬ (o = 270 ∧ a ≤ q) → ¬ (o = 273 ∧ q = r) → ¬ (o = 274 ∧ q = r) → ¬ (o = 100 ∧ q = 71) → I' o q = I o q)) K P J T 0 0 371 [(0, vR (some 100)), (1, vI x), (2, vI (I 257 x)), (3, vI a), (4, vI b), (5, vI (wa : Int)), (6, vI (wb : Int)), (7, vI (w : Int)), (8, vI m), (9, vI (g : Int)), (10, vI (j : Int)), (11, vI is), (12, vI (i : Int))] [] := by
        intro l2
        induction l2 with
        | zero =>
          intro i is hi ho
          have ei : i = n1 := by omega
          subst ei
          have y1 : is ≠ 0 → ∃ x1 ∈ seg I 270 a wa i, mt2 (I 258 x) (I 259 x) x1 (rowAt I 270 (b + (wb : Int) * (j : Int)) wb) := fun z => by
            rcases ho with ⟨-, q, h1, h3, i2, h4, h5⟩ | ⟨h, -⟩
            · exact ⟨_, seg_mem.2 ⟨i2, by omega, rfl⟩, h5⟩
            · exact absurd h z
          have y0 : is = 0 → ¬ ∃ x1 ∈ seg I 270 a wa i, mt2 (I 258 x) (I 259 x) x1 (rowAt I 270 (b + (wb : Int) * (j : Int)) wb) := fun z => by
            rcases ho with ⟨h, -⟩ | ⟨-, h⟩
            · omega
            · rintro ⟨x1, h1, h3⟩
              obtain ⟨i2, h4, h5⟩ := seg_mem.1 h1
              exact h i2 (by omega) (by omega) ⟨i2, rfl, by rw [h5]; exact h3⟩
          clear ho rdL
          refine VW.iload (pc' := 373) d_Model_joins_371 rfl rfl ?_
          refine VW.aload_n (pc' := 374) d_Model_joins_373 rfl rfl ?_
          refine VW.gP (ci := 11) (T := T11) (N := 94) (k := 73) (k' := 73) (pc' := 377) d_Model_joins_374 rfl lk_Model_184 in11 rfl rfl rfl rfl (hM.k rfl) (hM.p (r := some 273) 73 rfl rfl) ?_
          refine VW.aload_n (pc' := 378) d_Model_joins_377 rfl rfl ?_
          refine VW.gI (ci := 11) (T := T11) (N := 94) (k := 71) (k' := 71) (pc' := 381) d_Model_joins_378 rfl lk_Model_434 in11 rfl rfl rfl rfl (hM.k rfl) (by first | exact g71 | exact g273 | exact g273a | exact g258 | exact g259 | exact vL | exact vR1 | rfl) ?_
          refine VW.iconst (pc' := 382) d_Model_joins_381 rfl (by decide) ?_
          refine VW.isub (pc' := 383) d_Model_joins_382 rfl (by omega) ?_
          refine VW.ild (pc' := 384) d_Model_joins_383 rfl (hM.k rfl) (by omega) (by omega) (by first | exact g71 | exact g273 | exact g273a | exact g258 | exact g259 | exact vL | exact vR1 | rfl) ?_
          refine VW.icmp_ge (tgt := 452) (pc' := 387) d_Model_joins_384 rfl rfl (fun c384 => ?_) (fun c384 => ?_)
          · refine VW.iload (pc' := 454) d_Model_joins_452 rfl rfl ?_
            refine VW.if_ne (tgt := 485) (pc' := 457) d_Model_joins_454 rfl rfl (fun c454 => ?_) (fun c454 => ?_)
            · try have e454 := bIn c454
              refine VW.iinc (pc' := 488) d_Model_joins_485 rfl rfl rfl (by omega) ?_
              refine VW.goto (pc' := 344) d_Model_joins_488 rfl ?_
              refine VW.pick [0, 1, 2, 3, 4, 5, 6, 7, 8, 9, 10] ?_
              first | exact nY (y0 c454) | exact nN (y1 c454)
            · try have e454 := bIe c454
              refine VW.aload_n (pc' := 458) d_Model_joins_457 rfl rfl ?_
              refine VW.iload (pc' := 460) d_Model_joins_458 rfl rfl ?_
              refine VW.iload (pc' := 462) d_Model_joins_460 rfl rfl ?_
              refine VW.iload (pc' := 464) d_Model_joins_462 rfl rfl ?_
              refine VW.imul (pc' := 465) d_Model_joins_464 rfl (by omega) ?_
              refine VW.iadd (pc' := 466) d_Model_joins_465 rfl (by omega) ?_
              refine VW.iconst (pc' := 467) d_Model_joins_466 rfl (by decide) ?_
              refine VW.iload (pc' := 469) d_Model_joins_467 rfl rfl ?_
              refine VW.iload (pc' := 471) d_Model_joins_469 rfl rfl ?_
              refine VW.iload (pc' := 473) d_Model_joins_471 rfl rfl ?_
              refine VW.iload (pc' := 475) d_Model_joins_473 rfl rfl ?_
              refine VW.imul (pc' := 476) d_Model_joins_475 rfl (by omega) ?_
              refine VW.iadd (pc' := 477) d_Model_joins_476 rfl (by omega) ?_
              refine VW.iload (pc' := 479) d_Model_joins_477 rfl rfl ?_
              refine VW.cV (ci := 11) (T := T11) (N := 94) (pc' := 482) d_Model_joins_479 rfl mv_Model_lays lk_Model_457 rfl (hM.k rfl) rfl rfl rfl (Nat.le_refl _) (Nat.le_refl _) (sp_Model_lays hM (by omega) (by omega) (by omega) (fun y => absurd rfl y) (fun _ => ⟨by omega, by omega⟩)) rfl rfl ?_
              refine VW.iinc (pc' := 485) d_Model_joins_482 rfl rfl rfl (by omega) ?_
              refine VW.iinc (pc' := 488) d_Model_joins_485 rfl rfl rfl (by omega) ?_
              refine VW.goto (pc' := 344) d_Model_joins_488 rfl ?_
              refine VW.pick [0, 1, 2, 3, 4, 5, 6, 7, 8, 9, 10] ?_
              first | exact nY (y0 c454) | exact nN (y1 c454)
          · exfalso; omega
        | succ l2 ihi =>
          intro i is hi ho
          obtain ⟨vL, t2, t3⟩ := rdL T fr i (by omega)
          have ei : ((i + 1 : Nat) : Int) = (i : Int) + 1 := by omega
          have nx : ∀ v, orI (fun q => ∃ i : Nat, (i : Int) = q ∧ mt2 (I 258 x) (I 259 x) (rowAt I 270 (a + (wa : Int) * (i : Int)) wa) (rowAt I 270 (b + (wb : Int) * (j : Int)) wb)) 0 ((i : Int) + 1) v → VW m_Model_joins false (rmv 1 26) (exU K P J (.inl none) (fun I' => (I' 100 71 = r + 1 ∧ I' 273 r = (joinL (I 257 x) (I 258 x) (I 259 x) wa wb (seg I 270 a wa n1) (seg I 270 b wb n2)).length ∧ I' 274 r = w ∧ seg I' 270 a w (joinL (I 257 x) (I 258 x) (I 259 x) wa wb (seg I 270 a wa n1) (seg I 270 b wb n2)).length = (joinL (I 257 x) (I 258 x) (I 259 x) wa wb (seg I 270 a wa n1) (seg I 270 b wb n2))) ∧ ∀ (o : Nat) (q : Int), ¬ (o = 270 ∧ a ≤ q) → ¬ (o = 273 ∧ q = r) → ¬ (o = 274 ∧ q = r) → ¬ (o = 100 ∧ q = 71) → I' o q = I o q)) K P J T 0 0 371 [(0, vR (some 100)), (1, vI x), (2, vI (I 257 x)), (3, vI a), (4, vI b), (5, vI (wa : Int)), (6, vI (wb : Int)), (7, vI (w : Int)), (8, vI m), (9, vI (g : Int)), (10, vI (j : Int)), (11, vI v), (12, vI ((i : Int) + 1))] [] := fun v hv => by
            have := ihi (i + 1) v (by omega) (by rw [ei]; exact hv)
            rw [ei] at this
            exact this
          have no : ¬ cmp3 (nth (rowAt I 270 (a + (wa : Int) * (i : Int)) wa) (I 258 x)) 1 (nth (rowAt I 270 (b + (wb : Int) * (j : Int)) wb) (I 259 x)) = 1 → ¬ (fun q : Int => ∃ i : Nat, (i : Int) = q ∧ mt2 (I 258 x) (I 259 x) (rowAt I 270 (a + (wa : Int) * (i : Int)) wa) (rowAt I 270 (b + (wb : Int) * (j : Int)) wb)) (i : Int) := fun z => by
            rintro ⟨i2, h1, h3⟩
            have : i2 = i := by omega
            subst this
            exact z h3
          have nK : is ≠ 0 → _ := fun z => nx 1 (ho.keep z)
          have nH : cmp3 (nth (rowAt I 270 (a + (wa : Int) * (i : Int)) wa) (I 258 x)) 1 (nth (rowAt I 270 (b + (wb : Int) * (j : Int)) wb) (I 259 x)) = 1 → _ := fun z => nx 1 (orI.hit (by omega) ⟨i, rfl, z⟩)
          have n0 : is = 0 → cmp3 (nth (rowAt I 270 (a + (wa : Int) * (i : Int)) wa) (I 258 x)) 1 (nth (rowAt I 270 (b + (wb : Int) * (j : Int)) wb) (I 259 x)) ≠ 1 → _ := fun z y => nx 0 (ho.no z (no y))
          clear ihi rdL nY nN nx no ho
          refine VW.iload (pc' := 373) d_Model_joins_371 rfl rfl ?_
          refine VW.aload_n (pc' := 374) d_Model_joins_373 rfl rfl ?_
          refine VW.gP (ci := 11) (T := T11) (N := 94) (k := 73) (k' := 73) (pc' := 377) d_Model_joins_374 rfl lk_Model_184 in11 rfl rfl rfl rfl (hM.k rfl) (hM.p (r := some 273) 73 rfl rfl) ?_
          refine VW.aload_n (pc' := 378) d_Model_joins_377 rfl rfl ?_
          refine VW.gI (ci := 11) (T := T11) (N := 94) (k := 71) (k' := 71) (pc' := 381) d_Model_joins_378 rfl lk_Model_434 in11 rfl rfl rfl rfl (hM.k rfl) (by first | exact g71 | exact g273 | exact g273a | exact g258 | exact g259 | exact vL | exact vR1 | rfl) ?_
          refine VW.iconst (pc' := 382) d_Model_joins_381 rfl (by decide) ?_
          refine VW.isub (pc' := 383) d_Model_joins_382 rfl (by omega) ?_
          refine VW.ild (pc' := 384) d_Model_joins_383 rfl (hM.k rfl) (by omega) (by omega) (by first | exact g71 | exact g273 | exact g273a | exact g258 | exact g259 | exact vL | exact vR1 | rfl) ?_
          refine VW.icmp_ge (tgt := 452) (pc' := 387) d_Model_joins_384 rfl rfl (fun c384 => ?_) (fun c384 => ?_)
          · exfalso; omega
          · refine VW.iload (pc' := 389) d_Model_joins_387 rfl rfl ?_
            refine VW.if_ne (tgt := 439) (pc' := 392) d_Model_joins_389 rfl rfl (fun c389 => ?_) (fun c389 => ?_)
            · try have e389 := bIn c389
              refine VW.iconst (pc' := 440) d_Model_joins_439 rfl (by decide) ?_
              refine VW.goto (pc' := 444) d_Model_joins_440 rfl ?_
              refine VW.istore (pc' := 446) d_Model_joins_444 rfl rfl ?_
              refine VW.iinc (pc' := 449) d_Model_joins_446 rfl rfl rfl (by omega) ?_
              refine VW.goto (pc' := 371) d_Model_joins_449 rfl ?_
              refine VW.pick [0, 1, 2, 3, 4, 5, 6, 7, 8, 9, 10, 11, 12] ?_
              first | exact nK c389 | exact nH c436 | exact n0 c389 c436
            · try have e389 := bIe c389
              refine VW.aload_n (pc' := 393) d_Model_joins_392 rfl rfl ?_
              refine VW.gP (ci := 11) (T := T11) (N := 94) (k := 70) (k' := 70) (pc' := 396) d_Model_joins_393 rfl lk_Model_178 in11 rfl rfl rfl rfl (hM.k rfl) (hM.p (r := some 270) 70 rfl rfl) ?_
              refine VW.iload_n (pc' := 397) d_Model_joins_396 rfl rfl ?_
              refine VW.iload (pc' := 399) d_Model_joins_397 rfl rfl ?_
              refine VW.iload (pc' := 401) d_Model_joins_399 rfl rfl ?_
              refine VW.imul (pc' := 402) d_Model_joins_401 rfl (by omega) ?_
              refine VW.iadd (pc' := 403) d_Model_joins_402 rfl (by omega) ?_
              refine VW.aload_n (pc' := 404) d_Model_joins_403 rfl rfl ?_
              refine VW.gP (ci := 11) (T := T11) (N := 94) (k := 58) (k' := 58) (pc' := 407) d_Model_joins_404 rfl lk_Model_150 in11 rfl rfl rfl rfl (hM.k rfl) (hM.p (r := some 258) 58 rfl rfl) ?_
              refine VW.iload_n (pc' := 408) d_Model_joins_407 rfl rfl ?_
              refine VW.ild (pc' := 409) d_Model_joins_408 rfl (hM.k rfl) (by omega) (by omega) (by first | exact g71 | exact g273 | exact g273a | exact g258 | exact g259 | exact vL | exact vR1 | rfl) ?_
              refine VW.iadd (pc' := 410) d_Model_joins_409 rfl (by omega) ?_
              refine VW.ild (pc' := 411) d_Model_joins_410 rfl (hM.k rfl) (by omega) (by omega) (by first | exact g71 | exact g273 | exact g273a | exact g258 | exact g259 | exact vL | exact vR1 | rfl) ?_
              refine VW.iconst (pc' := 412) d_Model_joins_411 rfl (by decide) ?_
              refine VW.aload_n (pc' := 413) d_Model_joins_412 rfl rfl ?_
              refine VW.gP (ci := 11) (T := T11) (N := 94) (k := 70) (k' := 70) (pc' := 416) d_Model_joins_413 rfl lk_Model_178 in11 rfl rfl rfl rfl (hM.k rfl) (hM.p (r := some 270) 70 rfl rfl) ?_
              refine VW.iload (pc' := 418) d_Model_joins_416 rfl rfl ?_
              refine VW.iload (pc' := 420) d_Model_joins_418 rfl rfl ?_
              refine VW.iload (pc' := 422) d_Model_joins_420 rfl rfl ?_
              refine VW.imul (pc' := 423) d_Model_joins_422 rfl (by omega) ?_
              refine VW.iadd (pc' := 424) d_Model_joins_423 rfl (by omega) ?_
              refine VW.aload_n (pc' := 425) d_Model_joins_424 rfl rfl ?_
              refine VW.gP (ci := 11) (T := T11) (N := 94) (k := 59) (k' := 59) (pc' := 428) d_Model_joins_425 rfl lk_Model_153 in11 rfl rfl rfl rfl (hM.k rfl) (hM.p (r := some 259) 59 rfl rfl) ?_
              refine VW.iload_n (pc' := 429) d_Model_joins_428 rfl rfl ?_
              refine VW.ild (pc' := 430) d_Model_joins_429 rfl (hM.k rfl) (by omega) (by omega) (by first | exact g71 | exact g273 | exact g273a | exact g258 | exact g259 | exact vL | exact vR1 | rfl) ?_
              refine VW.iadd (pc' := 431) d_Model_joins_430 rfl (by omega) ?_
              refine VW.ild (pc' := 432) d_Model_joins_431 rfl (hM.k rfl) (by omega) (by omega) (by first | exact g71 | exact g273 | exact g273a | exact g258 | exact g259 | exact vL | exact vR1 | rfl) ?_
              refine VW.cS (pc' := 435) d_Model_joins_432 rfl ms_Model_compares lk_Model_281 rfl rfl rfl (Nat.le_refl _) (Nat.le_refl _) (sp_Model_compares) rfl rfl ?_
              refine VW.iconst (pc' := 436) d_Model_joins_435 rfl (by decide) ?_
              refine VW.icmp_ne (tgt := 443) (pc' := 439) d_Model_joins_436 rfl rfl (fun c436 => ?_) (fun c436 => ?_)
              · refine VW.iconst (pc' := 444) d_Model_joins_443 rfl (by decide) ?_
                refine VW.istore (pc' := 446) d_Model_joins_444 rfl rfl ?_
                refine VW.iinc (pc' := 449) d_Model_joins_446 rfl rfl rfl (by omega) ?_
                refine VW.goto (pc' := 371) d_Model_joins_449 rfl ?_
                refine VW.pick [0, 1, 2, 3, 4, 5, 6, 7, 8, 9, 10, 11, 12] ?_
                first | exact nK c389 | exact nH c436 | exact n0 c389 c436
              · refine VW.iconst (pc' := 440) d_Model_joins_439 rfl (by decide) ?_
                refine VW.goto (pc' := 444) d_Model_joins_440 rfl ?_
                refine VW.istore (pc' := 446) d_Model_joins_444 rfl rfl ?_
                refine VW.iinc (pc' := 449) d_Model_joins_446 rfl rfl rfl (by omega) ?_
                refine VW.goto (pc' := 371) d_Model_joins_449 rfl ?_
                refine VW.pick [0, 1, 2, 3, 4, 5, 6, 7, 8, 9, 10, 11, 12] ?_
                first | exact nK c389 | exact nH c436 | exact n0 c389 c436
      have i0 := inner n1 0 0 (by omega) orI.z
      clear inner nY nN
      refine VW.iload (pc' := 346) d_Model_joins_344 rfl rfl ?_
      refine VW.aload_n (pc' := 347) d_Model_joins_346 rfl rfl ?_
      refine VW.gP (ci := 11) (T := T11) (N := 94) (k := 73) (k' := 73) (pc' := 350) d_Model_joins_347 rfl lk_Model_184 in11 rfl rfl rfl rfl (hM.k rfl) (hM.p (r := some 273) 73 rfl rfl) ?_
      refine VW.aload_n (pc' := 351) d_Model_joins_350 rfl rfl ?_
      refine VW.gI (ci := 11) (T := T11) (N := 94) (k := 71) (k' := 71) (pc' := 354) d_Model_joins_351 rfl lk_Model_434 in11 rfl rfl rfl rfl (hM.k rfl) (by first | exact g71 | exact g273 | exact g273a | exact g258 | exact g259 | exact vL | exact vR1 | rfl) ?_
      refine VW.iconst (pc' := 355) d_Model_joins_354 rfl (by decide) ?_
      refine VW.isub (pc' := 356) d_Model_joins_355 rfl (by omega) ?_
      refine VW.ild (pc' := 357) d_Model_joins_356 rfl (hM.k rfl) (by omega) (by omega) (by first | exact g71 | exact g273 | exact g273a | exact g258 | exact g259 | exact vL | exact vR1 | rfl) ?_
      refine VW.icmp_ge (tgt := 491) (pc' := 360) d_Model_joins_357 rfl rfl (fun c357 => ?_) (fun c357 => ?_)
      · refine VW.nrm ?_
        exfalso; omega
      · refine VW.iload_n (pc' := 361) d_Model_joins_360 rfl rfl ?_
        refine VW.iconst (pc' := 362) d_Model_joins_361 rfl (by decide) ?_
        refine VW.icmp_ne (tgt := 491) (pc' := 365) d_Model_joins_362 rfl rfl (fun c362 => ?_) (fun c362 => ?_)
        · refine VW.nrm ?_
          exfalso; omega
        · refine VW.iconst (pc' := 366) d_Model_joins_365 rfl (by decide) ?_
          refine VW.istore (pc' := 368) d_Model_joins_366 rfl rfl ?_
          refine VW.iconst (pc' := 369) d_Model_joins_368 rfl (by decide) ?_
          refine VW.istore (pc' := 371) d_Model_joins_369 rfl rfl ?_
          refine VW.pick [0, 1, 2, 3, 4, 5, 6, 7, 8, 9, 10, 11, 12] ?_
          exact i0
  exact right
theorem jn_left {x r a b m : Int} {wa wb w n1 n2 : Nat} (hM : MW K P) (hx : 0 ≤ x ∧ x < 252) (hr : I 100 71 = r + 2) (h0 : 0 ≤ r ∧ r < 10) (hw1 : I 274 r = wa) (hw2 : I 274 (r + 1) = wb) (hn1 : I 273 r = n1) (hn2 : I 273 (r + 1) = n2) (ha : I 272 r = a) (hb : I 272 (r + 1) = b) (hp : 0 ≤ a ∧ b = a + (wa : Int) * (n1 : Int) ∧ b + (wb : Int) * (n2 : Int) ≤ 600000) (hW : wa ≤ 10 ∧ wb ≤ 10 ∧ w ≤ 10) (hwe : (2 < I 257 x → w = wa) ∧ (I 257 x ≤ 2 → w = wa + wb)) (hN : n1 ≤ 512 ∧ n2 ≤ 512 ∧ (n1 : Int) * (n2 : Int) ≤ 512) (hB : 0 ≤ I 258 x ∧ I 258 x < wa) (hC : 0 ≤ I 259 x ∧ I 259 x < wb) (hJ : (joinL (I 257 x) (I 258 x) (I 259 x) wa wb (seg I 270 a wa n1) (seg I 270 b wb n2)).length ≤ 1000) (hm : m = b + (wb : Int) * (n2 : Int)) : ∀ (l i g : Nat) (T : IT), i + l = n1 → MJ I T m w g (jLeft (I 257 x) (I 258 x) (I 259 x) wb (seg I 270 a wa i) (seg I 270 b wb n2)) → (g : Int) ≤ (i : Int) * ((n2 : Int) + 1) → VW m_Model_joins false (rmv 1 26) (exU K P J (.inl none) (fun I' => (I' 100 71 = r + 1 ∧ I' 273 r = (joinL (I 257 x) (I 258 x) (I 259 x) wa wb (seg I 270 a wa n1) (seg I 270 b wb n2)).length ∧ I' 274 r = w ∧ seg I' 270 a w (joinL (I 257 x) (I 258 x) (I 259 x) wa wb (seg I 270 a wa n1) (seg I 270 b wb n2)).length = (joinL (I 257 x) (I 258 x) (I 259 x) wa wb (seg I 270 a wa n1) (seg I 270 b wb n2))) ∧ ∀ (o : Nat) (q : Int), ¬ (o = 270 ∧ a ≤ q) → ¬ (o = 273 ∧ q = r) → ¬ (o = 274 ∧ q = r) → ¬ (o = 100 ∧ q = 71) → I' o q = I o q)) K P J T 0 0 87 [(0, vR (some 100)), (1, vI x), (2, vI (I 257 x)), (3, vI a), (4, vI b), (5, vI (wa : Int)), (6, vI (wb : Int)), (7, vI (w : Int)), (8, vI m), (9, vI (g : Int)), (10, vI (i : Int))] [] := by
  have q1 : (wa : Int) * (n1 : Int) ≤ 10 * 512 := mulUp (by omega) (by omega) (by omega) (by omega)
  have q2 : (wb : Int) * (n2 : Int) ≤ 10 * 512 := mulUp (by omega) (by omega) (by omega) (by omega)
  have q10 := mulNN (w := (wa : Int)) (k := (n1 : Int)) (by omega) (by omega)
  have q20 := mulNN (w := (wb : Int)) (k := (n2 : Int)) (by omega) (by omega)
  have qN0 := mulNN (w := (n1 : Int)) (k := (n2 : Int)) (by omega) (by omega)
  have rdL : ∀ (T : IT), (∀ (o : Nat) (q : Int), ¬ (o = 270 ∧ m ≤ q) → T o q = I o q) → ∀ i : Nat, i < n1 → T 270 (a + (wa : Int) * (i : Int) + I 258 x) = nth (rowAt I 270 (a + (wa : Int) * (i : Int)) wa) (I 258 x) ∧ 0 ≤ (wa : Int) * (i : Int) ∧ (wa : Int) * (i : Int) + wa ≤ (wa : Int) * (n1 : Int) := fun T fr i hi => by
    have s1 := mulStep (w := (wa : Int)) (k := (i : Int)) (n := (n1 : Int)) (by omega) (by omega)
    have s2 := mulNN (w := (wa : Int)) (k := (i : Int)) (by omega) (by omega)
    exact ⟨by rw [nth_rowAt hB.1 hB.2]; exact fr 270 _ (by omega), s2, s1⟩
  have rdR : ∀ (T : IT), (∀ (o : Nat) (q : Int), ¬ (o = 270 ∧ m ≤ q) → T o q = I o q) → ∀ j : Nat, j < n2 → T 270 (b + (wb : Int) * (j : Int) + I 259 x) = nth (rowAt I 270 (b + (wb : Int) * (j : Int)) wb) (I 259 x) ∧ 0 ≤ (wb : Int) * (j : Int) ∧ (wb : Int) * (j : Int) + wb ≤ (wb : Int) * (n2 : Int) := fun T fr j hj => by
    have s1 := mulStep (w := (wb : Int)) (k := (j : Int)) (n := (n2 : Int)) (by omega) (by omega)
    have s2 := mulNN (w := (wb : Int)) (k := (j : Int)) (by omega) (by omega)
    exact ⟨by rw [nth_rowAt hC.1 hC.2]; exact fr 270 _ (by omega), s2, s1⟩
  have gW : ∀ g : Nat, g ≤ 2000 → 0 ≤ (w : Int) * (g : Int) ∧ (w : Int) * (g : Int) ≤ 20000 := fun g hg => by
    have := mulUp (w := (w : Int)) (k := (g : Int)) (W := 10) (n := 2000) (by omega) (by omega) (by omega) (by omega)
    exact ⟨mulNN (by omega) (by omega), by omega⟩
  have last := jn_last (J := J) hM hx hr h0 hw1 hw2 hn1 hn2 ha hb hp hW hwe hN hB hC hJ hm
  have right := jn_right (J := J) hM hx hr h0 hw1 hw2 hn1 hn2 ha hb hp hW hwe hN hB hC hJ hm
  have left : ∀ (l i g : Nat) (T : IT), i + l = n1 → MJ I T m w g (jLeft (I 257 x) (I 258 x) (I 259 x) wb (seg I 270 a wa i) (seg I 270 b wb n2)) → (g : Int) ≤ (i : Int) * ((n2 : Int) + 1) → VW m_Model_joins false (rmv 1 26) (exU K P J (.inl none) (fun I' => (I' 100 71 = r + 1 ∧ I' 273 r = (joinL (I 257 x) (I 258 x) (I 259 x) wa wb (seg I 270 a wa n1) (seg I 270 b wb n2)).length ∧ I' 274 r = w ∧ seg I' 270 a w (joinL (I 257 x) (I 258 x) (I 259 x) wa wb (seg I 270 a wa n1) (seg I 270 b wb n2)).length = (joinL (I 257 x) (I 258 x) (I 259 x) wa wb (seg I 270 a wa n1) (seg I 270 b wb n2))) ∧ ∀ (o : Nat) (q : Int), ¬ (o = 270 ∧ a ≤ q) → ¬ (o = 273 ∧ q = r) → ¬ (o = 274 ∧ q = r) → ¬ (o = 100 ∧ q = 71) → I' o q = I o q)) K P J T 0 0 87 [(0, vR (some 100)), (1, vI x), (2, vI (I 257 x)), (3, vI a), (4, vI b), (5, vI (wa : Int)), (6, vI (wb : Int)), (7, vI (w : Int)), (8, vI m), (9, vI (g : Int)), (10, vI (i : Int))] [] := by
    intro l
    induction l with
    | zero =>
      intro i g T hi hT hg
      have ei : i = n1 := by omega
      rw [ei] at hT hg
      have hg2 : (g : Int) ≤ 1024 := by rw [Int.mul_add, Int.mul_one] at hg; omega
      have rt := fun (z : I 257 x = 2) => right n2 0 g T (by omega) z (by rw [seg_0]; show MJ I T m w g (_ ++ []); rw [List.append_nil]; exact hT) (by omega)
      have lt := fun (z : I 257 x ≠ 2) (q : Int) => last g q T (by
        rw [show (joinL (I 257 x) (I 258 x) (I 259 x) wa wb (seg I 270 a wa n1) (seg I 270 b wb n2)) = (jLeft (I 257 x) (I 258 x) (I 259 x) wb (seg I 270 a wa n1) (seg I 270 b wb n2)) from by unfold joinL jRight; rw [if_neg z, List.append_nil]]
        exact hT)
      have g71 : T 100 71 = r + 2 := (hT.2 100 71 (by omega)).trans hr
      have g273 : T 273 (r + 2 - 1) = n2 := by rw [show r + 2 - 1 = r + 1 by omega, hT.2 273 (r + 1) (by omega)]; exact hn2
      have g273a : T 273 (r + 2 - 2) = n1 := by rw [show r + 2 - 2 = r by omega, hT.2 273 r (by omega)]; exact hn1
      clear last right hT rdL rdR gW hJ
      have at344 : VW m_Model_joins false (rmv 1 26) (exU K P J (.inl none) (fun I' => (I' 100 71 = r + 1 ∧ I' 273 r = (joinL (I 257 x) (I 258 x) (I 259 x) wa wb (seg I 270 a wa n1) (seg I 270 b wb n2)).length ∧ I' 274 r = w ∧ seg I' 270 a w (joinL (I 257 x) (I 258 x) (I 259 x) wa wb (seg I 270 a wa n1) (seg I 270 b wb n2)).length = (joinL (I 257 x) (I 258 x) (I 259 x) wa wb (seg I 270 a wa n1) (seg I 270 b wb n2))) ∧ ∀ (o : Nat) (q : Int), ¬ (o = 270 ∧ a ≤ q) → ¬ (o = 273 ∧ q = r) → ¬ (o = 274 ∧ q = r) → ¬ (o = 100 ∧ q = 71) → I' o q = I o q)) K P J T 0 0 344 [(0, vR (some 100)), (1, vI x), (2, vI (I 257 x)), (3, vI a), (4, vI b), (5, vI (wa : Int)), (6, vI (wb : Int)), (7, vI (w : Int)), (8, vI m), (9, vI (g : Int)), (10, vI 0)] [] := by
        by_cases z : I 257 x = 2
        · exact rt z
        · have lt1 := lt z
          clear lt rt
          refine VW.iload (pc' := 346) d_Model_joins_344 rfl rfl ?_
          refine VW.aload_n (pc' := 347) d_Model_joins_346 rfl rfl ?_
          refine VW.gP (ci := 11) (T := T11) (N := 94) (k := 73) (k' := 73) (pc' := 350) d_Model_joins_347 rfl lk_Model_184 in11 rfl rfl rfl rfl (hM.k rfl) (hM.p (r := some 273) 73 rfl rfl) ?_
          refine VW.aload_n (pc' := 351) d_Model_joins_350 rfl rfl ?_
          refine VW.gI (ci := 11) (T := T11) (N := 94) (k := 71) (k' := 71) (pc' := 354) d_Model_joins_351 rfl lk_Model_434 in11 rfl rfl rfl rfl (hM.k rfl) (by first | exact g71 | exact g273 | exact g273a | exact g258 | exact g259 | exact vL | exact vR1 | rfl) ?_
          refine VW.iconst (pc' := 355) d_Model_joins_354 rfl (by decide) ?_
          refine VW.isub (pc' := 356) d_Model_joins_355 rfl (by omega) ?_
          refine VW.ild (pc' := 357) d_Model_joins_356 rfl (hM.k rfl) (by omega) (by omega) (by first | exact g71 | exact g273 | exact g273a | exact g258 | exact g259 | exact vL | exact vR1 | rfl) ?_
          refine VW.icmp_ge (tgt := 491) (pc' := 360) d_Model_joins_357 rfl rfl (fun c357 => ?_) (fun c357 => ?_)
          · refine VW.pick [0, 1, 2, 3, 4, 5, 6, 7, 8, 9, 10] ?_
            exact lt1 _
          · refine VW.iload_n (pc' := 361) d_Model_joins_360 rfl rfl ?_
            refine VW.iconst (pc' := 362) d_Model_joins_361 rfl (by decide) ?_
            refine VW.icmp_ne (tgt := 491) (pc' := 365) d_Model_joins_362 rfl rfl (fun c362 => ?_) (fun c362 => ?_)
            · refine VW.pick [0, 1, 2, 3, 4, 5, 6, 7, 8, 9, 10] ?_
              exact lt1 _
            · exfalso; omega
      clear rt lt
      refine VW.iload (pc' := 89) d_Model_joins_87 rfl rfl ?_
      refine VW.aload_n (pc' := 90) d_Model_joins_89 rfl rfl ?_
      refine VW.gP (ci := 11) (T := T11) (N := 94) (k := 73) (k' := 73) (pc' := 93) d_Model_joins_90 rfl lk_Model_184 in11 rfl rfl rfl rfl (hM.k rfl) (hM.p (r := some 273) 73 rfl rfl) ?_
      refine VW.aload_n (pc' := 94) d_Model_joins_93 rfl rfl ?_
      refine VW.gI (ci := 11) (T := T11) (N := 94) (k := 71) (k' := 71) (pc' := 97) d_Model_joins_94 rfl lk_Model_434 in11 rfl rfl rfl rfl (hM.k rfl) (by first | exact g71 | exact g273 | exact g273a | exact g258 | exact g259 | exact vL | exact vR1 | rfl) ?_
      refine VW.iconst (pc' := 98) d_Model_joins_97 rfl (by decide) ?_
      refine VW.isub (pc' := 99) d_Model_joins_98 rfl (by omega) ?_
      refine VW.ild (pc' := 100) d_Model_joins_99 rfl (hM.k rfl) (by omega) (by omega) (by first | exact g71 | exact g273 | exact g273a | exact g258 | exact g259 | exact vL | exact vR1 | rfl) ?_
      refine VW.icmp_ge (tgt := 341) (pc' := 103) d_Model_joins_100 rfl rfl (fun c100 => ?_) (fun c100 => ?_)
      · refine VW.iconst (pc' := 342) d_Model_joins_341 rfl (by decide) ?_
        refine VW.istore (pc' := 344) d_Model_joins_342 rfl rfl ?_
        refine VW.pick [0, 1, 2, 3, 4, 5, 6, 7, 8, 9, 10] ?_
        exact at344
      · exfalso; omega
    | succ l ih =>
      intro i g0 T0 hi hT0 hg0
      have e1 : (i : Int) * ((n2 : Int) + 1) + ((n2 : Int) + 1) ≤ (n1 : Int) * ((n2 : Int) + 1) := by
        have := mulStep (w := (n2 : Int) + 1) (k := (i : Int)) (n := (n1 : Int)) (by omega) (by omega)
        rw [Int.mul_comm ((n2 : Int) + 1), Int.mul_comm ((n2 : Int) + 1)] at this
        exact this
      have e2 : (n1 : Int) * ((n2 : Int) + 1) ≤ 1024 := by rw [Int.mul_add, Int.mul_one]; omega
      have e3 : ((i : Int) + 1) * ((n2 : Int) + 1) = (i : Int) * ((n2 : Int) + 1) + ((n2 : Int) + 1) := by rw [Int.add_mul, Int.one_mul]
      have ei : ((i + 1 : Nat) : Int) = (i : Int) + 1 := by omega
      have ihn : ∀ (g : Nat) (T : IT), MJ I T m w g (jLeft (I 257 x) (I 258 x) (I 259 x) wb (seg I 270 a wa (i + 1)) (seg I 270 b wb n2)) → (g : Int) ≤ (i : Int) * ((n2 : Int) + 1) + ((n2 : Int) + 1) → VW m_Model_joins false (rmv 1 26) (exU K P J (.inl none) (fun I' => (I' 100 71 = r + 1 ∧ I' 273 r = (joinL (I 257 x) (I 258 x) (I 259 x) wa wb (seg I 270 a wa n1) (seg I 270 b wb n2)).length ∧ I' 274 r = w ∧ seg I' 270 a w (joinL (I 257 x) (I 258 x) (I 259 x) wa wb (seg I 270 a wa n1) (seg I 270 b wb n2)).length = (joinL (I 257 x) (I 258 x) (I 259 x) wa wb (seg I 270 a wa n1) (seg I 270 b wb n2))) ∧ ∀ (o : Nat) (q : Int), ¬ (o = 270 ∧ a ≤ q) → ¬ (o = 273 ∧ q = r) → ¬ (o = 274 ∧ q = r) → ¬ (o = 100 ∧ q = 71) → I' o q = I o q)) K P J T 0 0 87 [(0, vR (some 100)), (1, vI x), (2, vI (I 257 x)), (3, vI a), (4, vI b), (5, vI (wa : Int)), (6, vI (wb : Int)), (7, vI (w : Int)), (8, vI m), (9, vI (g : Int)), (10, vI ((i : Int) + 1))] [] := fun g T hT hg => by
        have := ih (i + 1) g T (by omega) hT (by rw [ei, e3]; exact hg)
        rw [ei] at this
        exact this
      clear ih last right hJ e3
      have inner : ∀ (l2 j g c : Nat) (T : IT), j + l2 = n2 → MJ I T m w g ((jLeft (I 257 x) (I 258 x) (I 259 x) wb (seg I 270 a wa i) (seg I 270 b wb n2)) ++ jM (I 257 x) (rowAt I 270 (a + (wa : Int) * (i : Int)) wa) (flt (mt2 (I 258 x) (I 259 x) (rowAt I 270 (a + (wa : Int) * (i : Int)) wa)) (seg I 270 b wb j))) → c = (flt (mt2 (I 258 x) (I 259 x) (rowAt I 270 (a + (wa : Int) * (i : Int)) wa)) (seg I 270 b wb j)).length → (g : Int) ≤ (i : Int) * ((n2 : Int) + 1) + j → VW m_Model_joins false (rmv 1 26) (exU K P J (.inl none) (fun I' => (I' 100 71 = r + 1 ∧ I' 273 r = (joinL (I 257 x) (I 258 x) (I 259 x) wa wb (seg I 270 a wa n1) (seg I 270 b wb n2)).length ∧ I' 274 r = w ∧ seg I' 270 a w (joinL (I 257 x) (I 258 x) (I 259 x) wa wb (seg I 270 a wa n1) (seg I 270 b wb n2)).length = (joinL (I 257 x) (I 258 x) (I 259 x) wa wb (seg I 270 a wa n1) (seg I 270 b wb n2))) ∧ ∀ (o : Nat) (q : Int), ¬ (o = 270 ∧ a ≤ q) → ¬ (o = 273 ∧ q = r) → ¬ (o = 274 ∧ q = r) → ¬ (o = 100 ∧ q = 71) → I' o q = I o q)) K P J T 0 0 109 [(0, vR (some 100)), (1, vI x), (2, vI (I 257 x)), (3, vI a), (4, vI b), (5, vI (wa : Int)), (6, vI (wb : Int)), (7, vI (w : Int)), (8, vI m), (9, vI (g : Int)), (10, vI (i : Int)), (11, vI (c : Int)), (12, vI (j : Int))] [] := by
        intro l2
        induction l2 with
        | zero =>
          intro j g c T hj hT hc hg
          have ej : j = n2 := by omega
          rw [ej] at hT hc hg
          obtain ⟨-, t2, t3⟩ := rdL T hT.2 i (by omega)
          have g71 : T 100 71 = r + 2 := (hT.2 100 71 (by omega)).trans hr
          have g273 : T 273 (r + 2 - 1) = n2 := by rw [show r + 2 - 1 = r + 1 by omega, hT.2 273 (r + 1) (by omega)]; exact hn2
          have eg : ((g + 1 : Nat) : Int) = (g : Int) + 1 := by omega
          have gw := gW g (by omega)
          have nT1 : (I 257 x = 3 ∧ 0 < c) ∨ (I 257 x = 4 ∧ c = 0) → VW m_Model_joins false (rmv 1 26) (exU K P J (.inl none) (fun I' => (I' 100 71 = r + 1 ∧ I' 273 r = (joinL (I 257 x) (I 258 x) (I 259 x) wa wb (seg I 270 a wa n1) (seg I 270 b wb n2)).length ∧ I' 274 r = w ∧ seg I' 270 a w (joinL (I 257 x) (I 258 x) (I 259 x) wa wb (seg I 270 a wa n1) (seg I 270 b wb n2)).length = (joinL (I 257 x) (I 258 x) (I 259 x) wa wb (seg I 270 a wa n1) (seg I 270 b wb n2))) ∧ ∀ (o : Nat) (q : Int), ¬ (o = 270 ∧ a ≤ q) → ¬ (o = 273 ∧ q = r) → ¬ (o = 274 ∧ q = r) → ¬ (o = 100 ∧ q = 71) → I' o q = I o q)) K P J (layB T (m + (w : Int) * (g : Int)) (a + (wa : Int) * (i : Int)) wa (-1) 0) 0 0 87 [(0, vR (some 100)), (1, vI x), (2, vI (I 257 x)), (3, vI a), (4, vI b), (5, vI (wa : Int)), (6, vI (wb : Int)), (7, vI (w : Int)), (8, vI m), (9, vI ((g : Int) + 1)), (10, vI ((i : Int) + 1))] [] := fun z => by
            have hA := hT.add (a := a + (wa : Int) * (i : Int)) (b := -1) (va := wa) (vb := 0) (hwe.1 (by omega)) (fun y => ⟨by omega, by omega⟩) (fun y => absurd rfl y)
            have := ihn (g + 1) _ (by
              rw [seg_succ, jLeft_snoc]
              unfold jRow
              rw [← hc, jT_1 z, ← List.append_assoc]
              rw [part_nul, part_row (by omega)] at hA
              rw [show (rowAt I 270 (a + (wa : Int) * (i : Int)) wa) ++ List.replicate 0 (-2147483648) = (rowAt I 270 (a + (wa : Int) * (i : Int)) wa) from List.append_nil _] at hA
              exact hA) (by omega)
            rw [eg] at this
            exact this
          have nT2 : (I 257 x = 1 ∨ I 257 x = 2) ∧ c = 0 → VW m_Model_joins false (rmv 1 26) (exU K P J (.inl none) (fun I' => (I' 100 71 = r + 1 ∧ I' 273 r = (joinL (I 257 x) (I 258 x) (I 259 x) wa wb (seg I 270 a wa n1) (seg I 270 b wb n2)).length ∧ I' 274 r = w ∧ seg I' 270 a w (joinL (I 257 x) (I 258 x) (I 259 x) wa wb (seg I 270 a wa n1) (seg I 270 b wb n2)).length = (joinL (I 257 x) (I 258 x) (I 259 x) wa wb (seg I 270 a wa n1) (seg I 270 b wb n2))) ∧ ∀ (o : Nat) (q : Int), ¬ (o = 270 ∧ a ≤ q) → ¬ (o = 273 ∧ q = r) → ¬ (o = 274 ∧ q = r) → ¬ (o = 100 ∧ q = 71) → I' o q = I o q)) K P J (layB T (m + (w : Int) * (g : Int)) (a + (wa : Int) * (i : Int)) wa (-1) wb) 0 0 87 [(0, vR (some 100)), (1, vI x), (2, vI (I 257 x)), (3, vI a), (4, vI b), (5, vI (wa : Int)), (6, vI (wb : Int)), (7, vI (w : Int)), (8, vI m), (9, vI ((g : Int) + 1)), (10, vI ((i : Int) + 1))] [] := fun z => by
            have hA := hT.add (a := a + (wa : Int) * (i : Int)) (b := -1) (va := wa) (vb := wb) (hwe.2 (by omega)) (fun y => ⟨by omega, by omega⟩) (fun y => absurd rfl y)
            have := ihn (g + 1) _ (by
              rw [seg_succ, jLeft_snoc]
              unfold jRow
              rw [← hc, jT_2 z, ← List.append_assoc]
              rw [part_nul, part_row (by omega)] at hA
              exact hA) (by omega)
            rw [eg] at this
            exact this
          have nT0 : ¬ ((I 257 x = 3 ∧ 0 < c) ∨ (I 257 x = 4 ∧ c = 0)) → ¬ ((I 257 x = 1 ∨ I 257 x = 2) ∧ c = 0) → VW m_Model_joins false (rmv 1 26) (exU K P J (.inl none) (fun I' => (I' 100 71 = r + 1 ∧ I' 273 r = (joinL (I 257 x) (I 258 x) (I 259 x) wa wb (seg I 270 a wa n1) (seg I 270 b wb n2)).length ∧ I' 274 r = w ∧ seg I' 270 a w (joinL (I 257 x) (I 258 x) (I 259 x) wa wb (seg I 270 a wa n1) (seg I 270 b wb n2)).length = (joinL (I 257 x) (I 258 x) (I 259 x) wa wb (seg I 270 a wa n1) (seg I 270 b wb n2))) ∧ ∀ (o : Nat) (q : Int), ¬ (o = 270 ∧ a ≤ q) → ¬ (o = 273 ∧ q = r) → ¬ (o = 274 ∧ q = r) → ¬ (o = 100 ∧ q = 71) → I' o q = I o q)) K P J T 0 0 87 [(0, vR (some 100)), (1, vI x), (2, vI (I 257 x)), (3, vI a), (4, vI b), (5, vI (wa : Int)), (6, vI (wb : Int)), (7, vI (w : Int)), (8, vI m), (9, vI (g : Int)), (10, vI ((i : Int) + 1))] [] := fun z z2 => by
            exact ihn g _ (by
              rw [seg_succ, jLeft_snoc]
              unfold jRow
              rw [← hc, jT_0 z z2, List.append_nil]
              exact hT) (by omega)
          clear hT hc rdL rdR ihn gW
          refine VW.iload (pc' := 111) d_Model_joins_109 rfl rfl ?_
          refine VW.aload_n (pc' := 112) d_Model_joins_111 rfl rfl ?_
          refine VW.gP (ci := 11) (T := T11) (N := 94) (k := 73) (k' := 73) (pc' := 115) d_Model_joins_112 rfl lk_Model_184 in11 rfl rfl rfl rfl (hM.k rfl) (hM.p (r := some 273) 73 rfl rfl) ?_
          refine VW.aload_n (pc' := 116) d_Model_joins_115 rfl rfl ?_
          refine VW.gI (ci := 11) (T := T11) (N := 94) (k := 71) (k' := 71) (pc' := 119) d_Model_joins_116 rfl lk_Model_434 in11 rfl rfl rfl rfl (hM.k rfl) (by first | exact g71 | exact g273 | exact g273a | exact g258 | exact g259 | exact vL | exact vR1 | rfl) ?_
          refine VW.iconst (pc' := 120) d_Model_joins_119 rfl (by decide) ?_
          refine VW.isub (pc' := 121) d_Model_joins_120 rfl (by omega) ?_
          refine VW.ild (pc' := 122) d_Model_joins_121 rfl (hM.k rfl) (by omega) (by omega) (by first | exact g71 | exact g273 | exact g273a | exact g258 | exact g259 | exact vL | exact vR1 | rfl) ?_
          refine VW.icmp_ge (tgt := 244) (pc' := 125) d_Model_joins_122 rfl rfl (fun c122 => ?_) (fun c122 => ?_)
          · refine VW.iload_n (pc' := 245) d_Model_joins_244 rfl rfl ?_
            refine VW.iconst (pc' := 246) d_Model_joins_245 rfl (by decide) ?_
            refine VW.icmp_ne (tgt := 254) (pc' := 249) d_Model_joins_246 rfl rfl (fun c246 => ?_) (fun c246 => ?_)
            · refine VW.iload_n (pc' := 255) d_Model_joins_254 rfl rfl ?_
              refine VW.iconst (pc' := 256) d_Model_joins_255 rfl (by decide) ?_
              refine VW.icmp_ne (tgt := 293) (pc' := 259) d_Model_joins_256 rfl rfl (fun c256 => ?_) (fun c256 => ?_)
              · refine VW.iload_n (pc' := 294) d_Model_joins_293 rfl rfl ?_
                refine VW.iconst (pc' := 295) d_Model_joins_294 rfl (by decide) ?_
                refine VW.icmp_eq (tgt := 303) (pc' := 298) d_Model_joins_295 rfl rfl (fun c295 => ?_) (fun c295 => ?_)
                · refine VW.iload (pc' := 305) d_Model_joins_303 rfl rfl ?_
                  refine VW.if_ne (tgt := 335) (pc' := 308) d_Model_joins_305 rfl rfl (fun c305 => ?_) (fun c305 => ?_)
                  · try have e305 := bIn c305
                    refine VW.iinc (pc' := 338) d_Model_joins_335 rfl rfl rfl (by omega) ?_
                    refine VW.goto (pc' := 87) d_Model_joins_338 rfl ?_
                    refine VW.pick [0, 1, 2, 3, 4, 5, 6, 7, 8, 9, 10] ?_
                    first | exact nT1 (Or.inl ⟨c246, by omega⟩) | exact nT1 (Or.inr ⟨c256, by omega⟩) | exact nT2 ⟨Or.inl c295, by omega⟩ | exact nT2 ⟨Or.inr c300, by omega⟩ | exact nT0 (by omega) (by omega) | (exfalso; omega)
                  · try have e305 := bIe c305
                    refine VW.aload_n (pc' := 309) d_Model_joins_308 rfl rfl ?_
                    refine VW.iload (pc' := 311) d_Model_joins_309 rfl rfl ?_
                    refine VW.iload (pc' := 313) d_Model_joins_311 rfl rfl ?_
                    refine VW.iload (pc' := 315) d_Model_joins_313 rfl rfl ?_
                    refine VW.imul (pc' := 316) d_Model_joins_315 rfl (by omega) ?_
                    refine VW.iadd (pc' := 317) d_Model_joins_316 rfl (by omega) ?_
                    refine VW.iload_n (pc' := 318) d_Model_joins_317 rfl rfl ?_
                    refine VW.iload (pc' := 320) d_Model_joins_318 rfl rfl ?_
                    refine VW.iload (pc' := 322) d_Model_joins_320 rfl rfl ?_
                    refine VW.imul (pc' := 323) d_Model_joins_322 rfl (by omega) ?_
                    refine VW.iadd (pc' := 324) d_Model_joins_323 rfl (by omega) ?_
                    refine VW.iload (pc' := 326) d_Model_joins_324 rfl rfl ?_
                    refine VW.iconst (pc' := 327) d_Model_joins_326 rfl (by decide) ?_
                    refine VW.iload (pc' := 329) d_Model_joins_327 rfl rfl ?_
                    refine VW.cV (ci := 11) (T := T11) (N := 94) (pc' := 332) d_Model_joins_329 rfl mv_Model_lays lk_Model_457 rfl (hM.k rfl) rfl rfl rfl (Nat.le_refl _) (Nat.le_refl _) (sp_Model_lays hM (by omega) (by omega) (by omega) (fun _ => ⟨by omega, by omega⟩) (fun y => absurd rfl y)) rfl rfl ?_
                    refine VW.iinc (pc' := 335) d_Model_joins_332 rfl rfl rfl (by omega) ?_
                    refine VW.iinc (pc' := 338) d_Model_joins_335 rfl rfl rfl (by omega) ?_
                    refine VW.goto (pc' := 87) d_Model_joins_338 rfl ?_
                    refine VW.pick [0, 1, 2, 3, 4, 5, 6, 7, 8, 9, 10] ?_
                    first | exact nT1 (Or.inl ⟨c246, by omega⟩) | exact nT1 (Or.inr ⟨c256, by omega⟩) | exact nT2 ⟨Or.inl c295, by omega⟩ | exact nT2 ⟨Or.inr c300, by omega⟩ | exact nT0 (by omega) (by omega) | (exfalso; omega)
                · refine VW.iload_n (pc' := 299) d_Model_joins_298 rfl rfl ?_
                  refine VW.iconst (pc' := 300) d_Model_joins_299 rfl (by decide) ?_
                  refine VW.icmp_ne (tgt := 335) (pc' := 303) d_Model_joins_300 rfl rfl (fun c300 => ?_) (fun c300 => ?_)
                  · refine VW.iinc (pc' := 338) d_Model_joins_335 rfl rfl rfl (by omega) ?_
                    refine VW.goto (pc' := 87) d_Model_joins_338 rfl ?_
                    refine VW.pick [0, 1, 2, 3, 4, 5, 6, 7, 8, 9, 10] ?_
                    first | exact nT1 (Or.inl ⟨c246, by omega⟩) | exact nT1 (Or.inr ⟨c256, by omega⟩) | exact nT2 ⟨Or.inl c295, by omega⟩ | exact nT2 ⟨Or.inr c300, by omega⟩ | exact nT0 (by omega) (by omega) | (exfalso; omega)
                  · refine VW.iload (pc' := 305) d_Model_joins_303 rfl rfl ?_
                    refine VW.if_ne (tgt := 335) (pc' := 308) d_Model_joins_305 rfl rfl (fun c305 => ?_) (fun c305 => ?_)
                    · try have e305 := bIn c305
                      refine VW.iinc (pc' := 338) d_Model_joins_335 rfl rfl rfl (by omega) ?_
                      refine VW.goto (pc' := 87) d_Model_joins_338 rfl ?_
                      refine VW.pick [0, 1, 2, 3, 4, 5, 6, 7, 8, 9, 10] ?_
                      first | exact nT1 (Or.inl ⟨c246, by omega⟩) | exact nT1 (Or.inr ⟨c256, by omega⟩) | exact nT2 ⟨Or.inl c295, by omega⟩ | exact nT2 ⟨Or.inr c300, by omega⟩ | exact nT0 (by omega) (by omega) | (exfalso; omega)
                    · try have e305 := bIe c305
                      refine VW.aload_n (pc' := 309) d_Model_joins_308 rfl rfl ?_
                      refine VW.iload (pc' := 311) d_Model_joins_309 rfl rfl ?_
                      refine VW.iload (pc' := 313) d_Model_joins_311 rfl rfl ?_
                      refine VW.iload (pc' := 315) d_Model_joins_313 rfl rfl ?_
                      refine VW.imul (pc' := 316) d_Model_joins_315 rfl (by omega) ?_
                      refine VW.iadd (pc' := 317) d_Model_joins_316 rfl (by omega) ?_
                      refine VW.iload_n (pc' := 318) d_Model_joins_317 rfl rfl ?_
                      refine VW.iload (pc' := 320) d_Model_joins_318 rfl rfl ?_
                      refine VW.iload (pc' := 322) d_Model_joins_320 rfl rfl ?_
                      refine VW.imul (pc' := 323) d_Model_joins_322 rfl (by omega) ?_
                      refine VW.iadd (pc' := 324) d_Model_joins_323 rfl (by omega) ?_
                      refine VW.iload (pc' := 326) d_Model_joins_324 rfl rfl ?_
                      refine VW.iconst (pc' := 327) d_Model_joins_326 rfl (by decide) ?_
                      refine VW.iload (pc' := 329) d_Model_joins_327 rfl rfl ?_
                      refine VW.cV (ci := 11) (T := T11) (N := 94) (pc' := 332) d_Model_joins_329 rfl mv_Model_lays lk_Model_457 rfl (hM.k rfl) rfl rfl rfl (Nat.le_refl _) (Nat.le_refl _) (sp_Model_lays hM (by omega) (by omega) (by omega) (fun _ => ⟨by omega, by omega⟩) (fun y => absurd rfl y)) rfl rfl ?_
                      refine VW.iinc (pc' := 335) d_Model_joins_332 rfl rfl rfl (by omega) ?_
                      refine VW.iinc (pc' := 338) d_Model_joins_335 rfl rfl rfl (by omega) ?_
                      refine VW.goto (pc' := 87) d_Model_joins_338 rfl ?_
                      refine VW.pick [0, 1, 2, 3, 4, 5, 6, 7, 8, 9, 10] ?_
                      first | exact nT1 (Or.inl ⟨c246, by omega⟩) | exact nT1 (Or.inr ⟨c256, by omega⟩) | exact nT2 ⟨Or.inl c295, by omega⟩ | exact nT2 ⟨Or.inr c300, by omega⟩ | exact nT0 (by omega) (by omega) | (exfalso; omega)
              · refine VW.iload (pc' := 261) d_Model_joins_259 rfl rfl ?_
                refine VW.if_ne (tgt := 293) (pc' := 264) d_Model_joins_261 rfl rfl (fun c261 => ?_) (fun c261 => ?_)
                · try have e261 := bIn c261
                  refine VW.iload_n (pc' := 294) d_Model_joins_293 rfl rfl ?_
                  refine VW.iconst (pc' := 295) d_Model_joins_294 rfl (by decide) ?_
                  refine VW.icmp_eq (tgt := 303) (pc' := 298) d_Model_joins_295 rfl rfl (fun c295 => ?_) (fun c295 => ?_)
                  · refine VW.iload (pc' := 305) d_Model_joins_303 rfl rfl ?_
                    refine VW.if_ne (tgt := 335) (pc' := 308) d_Model_joins_305 rfl rfl (fun c305 => ?_) (fun c305 => ?_)
                    · try have e305 := bIn c305
                      refine VW.iinc (pc' := 338) d_Model_joins_335 rfl rfl rfl (by omega) ?_
                      refine VW.goto (pc' := 87) d_Model_joins_338 rfl ?_
                      refine VW.pick [0, 1, 2, 3, 4, 5, 6, 7, 8, 9, 10] ?_
                      first | exact nT1 (Or.inl ⟨c246, by omega⟩) | exact nT1 (Or.inr ⟨c256, by omega⟩) | exact nT2 ⟨Or.inl c295, by omega⟩ | exact nT2 ⟨Or.inr c300, by omega⟩ | exact nT0 (by omega) (by omega) | (exfalso; omega)
                    · try have e305 := bIe c305
                      refine VW.aload_n (pc' := 309) d_Model_joins_308 rfl rfl ?_
                      refine VW.iload (pc' := 311) d_Model_joins_309 rfl rfl ?_
                      refine VW.iload (pc' := 313) d_Model_joins_311 rfl rfl ?_
                      refine VW.iload (pc' := 315) d_Model_joins_313 rfl rfl ?_
                      refine VW.imul (pc' := 316) d_Model_joins_315 rfl (by omega) ?_
                      refine VW.iadd (pc' := 317) d_Model_joins_316 rfl (by omega) ?_
                      refine VW.iload_n (pc' := 318) d_Model_joins_317 rfl rfl ?_
                      refine VW.iload (pc' := 320) d_Model_joins_318 rfl rfl ?_
                      refine VW.iload (pc' := 322) d_Model_joins_320 rfl rfl ?_
                      refine VW.imul (pc' := 323) d_Model_joins_322 rfl (by omega) ?_
                      refine VW.iadd (pc' := 324) d_Model_joins_323 rfl (by omega) ?_
                      refine VW.iload (pc' := 326) d_Model_joins_324 rfl rfl ?_
                      refine VW.iconst (pc' := 327) d_Model_joins_326 rfl (by decide) ?_
                      refine VW.iload (pc' := 329) d_Model_joins_327 rfl rfl ?_
                      refine VW.cV (ci := 11) (T := T11) (N := 94) (pc' := 332) d_Model_joins_329 rfl mv_Model_lays lk_Model_457 rfl (hM.k rfl) rfl rfl rfl (Nat.le_refl _) (Nat.le_refl _) (sp_Model_lays hM (by omega) (by omega) (by omega) (fun _ => ⟨by omega, by omega⟩) (fun y => absurd rfl y)) rfl rfl ?_
                      refine VW.iinc (pc' := 335) d_Model_joins_332 rfl rfl rfl (by omega) ?_
                      refine VW.iinc (pc' := 338) d_Model_joins_335 rfl rfl rfl (by omega) ?_
                      refine VW.goto (pc' := 87) d_Model_joins_338 rfl ?_
                      refine VW.pick [0, 1, 2, 3, 4, 5, 6, 7, 8, 9, 10] ?_
                      first | exact nT1 (Or.inl ⟨c246, by omega⟩) | exact nT1 (Or.inr ⟨c256, by omega⟩) | exact nT2 ⟨Or.inl c295, by omega⟩ | exact nT2 ⟨Or.inr c300, by omega⟩ | exact nT0 (by omega) (by omega) | (exfalso; omega)
                  · refine VW.iload_n (pc' := 299) d_Model_joins_298 rfl rfl ?_
                    refine VW.iconst (pc' := 300) d_Model_joins_299 rfl (by decide) ?_
                    refine VW.icmp_ne (tgt := 335) (pc' := 303) d_Model_joins_300 rfl rfl (fun c300 => ?_) (fun c300 => ?_)
                    · refine VW.iinc (pc' := 338) d_Model_joins_335 rfl rfl rfl (by omega) ?_
                      refine VW.goto (pc' := 87) d_Model_joins_338 rfl ?_
                      refine VW.pick [0, 1, 2, 3, 4, 5, 6, 7, 8, 9, 10] ?_
                      first | exact nT1 (Or.inl ⟨c246, by omega⟩) | exact nT1 (Or.inr ⟨c256, by omega⟩) | exact nT2 ⟨Or.inl c295, by omega⟩ | exact nT2 ⟨Or.inr c300, by omega⟩ | exact nT0 (by omega) (by omega) | (exfalso; omega)
                    · refine VW.iload (pc' := 305) d_Model_joins_303 rfl rfl ?_
                      refine VW.if_ne (tgt := 335) (pc' := 308) d_Model_joins_305 rfl rfl (fun c305 => ?_) (fun c305 => ?_)
                      · try have e305 := bIn c305
                        refine VW.iinc (pc' := 338) d_Model_joins_335 rfl rfl rfl (by omega) ?_
                        refine VW.goto (pc' := 87) d_Model_joins_338 rfl ?_
                        refine VW.pick [0, 1, 2, 3, 4, 5, 6, 7, 8, 9, 10] ?_
                        first | exact nT1 (Or.inl ⟨c246, by omega⟩) | exact nT1 (Or.inr ⟨c256, by omega⟩) | exact nT2 ⟨Or.inl c295, by omega⟩ | exact nT2 ⟨Or.inr c300, by omega⟩ | exact nT0 (by omega) (by omega) | (exfalso; omega)
                      · try have e305 := bIe c305
                        refine VW.aload_n (pc' := 309) d_Model_joins_308 rfl rfl ?_
                        refine VW.iload (pc' := 311) d_Model_joins_309 rfl rfl ?_
                        refine VW.iload (pc' := 313) d_Model_joins_311 rfl rfl ?_
                        refine VW.iload (pc' := 315) d_Model_joins_313 rfl rfl ?_
                        refine VW.imul (pc' := 316) d_Model_joins_315 rfl (by omega) ?_
                        refine VW.iadd (pc' := 317) d_Model_joins_316 rfl (by omega) ?_
                        refine VW.iload_n (pc' := 318) d_Model_joins_317 rfl rfl ?_
                        refine VW.iload (pc' := 320) d_Model_joins_318 rfl rfl ?_
                        refine VW.iload (pc' := 322) d_Model_joins_320 rfl rfl ?_
                        refine VW.imul (pc' := 323) d_Model_joins_322 rfl (by omega) ?_
                        refine VW.iadd (pc' := 324) d_Model_joins_323 rfl (by omega) ?_
                        refine VW.iload (pc' := 326) d_Model_joins_324 rfl rfl ?_
                        refine VW.iconst (pc' := 327) d_Model_joins_326 rfl (by decide) ?_
                        refine VW.iload (pc' := 329) d_Model_joins_327 rfl rfl ?_
                        refine VW.cV (ci := 11) (T := T11) (N := 94) (pc' := 332) d_Model_joins_329 rfl mv_Model_lays lk_Model_457 rfl (hM.k rfl) rfl rfl rfl (Nat.le_refl _) (Nat.le_refl _) (sp_Model_lays hM (by omega) (by omega) (by omega) (fun _ => ⟨by omega, by omega⟩) (fun y => absurd rfl y)) rfl rfl ?_
                        refine VW.iinc (pc' := 335) d_Model_joins_332 rfl rfl rfl (by omega) ?_
                        refine VW.iinc (pc' := 338) d_Model_joins_335 rfl rfl rfl (by omega) ?_
                        refine VW.goto (pc' := 87) d_Model_joins_338 rfl ?_
                        refine VW.pick [0, 1, 2, 3, 4, 5, 6, 7, 8, 9, 10] ?_
                        first | exact nT1 (Or.inl ⟨c246, by omega⟩) | exact nT1 (Or.inr ⟨c256, by omega⟩) | exact nT2 ⟨Or.inl c295, by omega⟩ | exact nT2 ⟨Or.inr c300, by omega⟩ | exact nT0 (by omega) (by omega) | (exfalso; omega)
                · try have e261 := bIe c261
                  refine VW.aload_n (pc' := 265) d_Model_joins_264 rfl rfl ?_
                  refine VW.iload (pc' := 267) d_Model_joins_265 rfl rfl ?_
                  refine VW.iload (pc' := 269) d_Model_joins_267 rfl rfl ?_
                  refine VW.iload (pc' := 271) d_Model_joins_269 rfl rfl ?_
                  refine VW.imul (pc' := 272) d_Model_joins_271 rfl (by omega) ?_
                  refine VW.iadd (pc' := 273) d_Model_joins_272 rfl (by omega) ?_
                  refine VW.iload_n (pc' := 274) d_Model_joins_273 rfl rfl ?_
                  refine VW.iload (pc' := 276) d_Model_joins_274 rfl rfl ?_
                  refine VW.iload (pc' := 278) d_Model_joins_276 rfl rfl ?_
                  refine VW.imul (pc' := 279) d_Model_joins_278 rfl (by omega) ?_
                  refine VW.iadd (pc' := 280) d_Model_joins_279 rfl (by omega) ?_
                  refine VW.iload (pc' := 282) d_Model_joins_280 rfl rfl ?_
                  refine VW.iconst (pc' := 283) d_Model_joins_282 rfl (by decide) ?_
                  refine VW.iconst (pc' := 284) d_Model_joins_283 rfl (by decide) ?_
                  refine VW.cV (ci := 11) (T := T11) (N := 94) (pc' := 287) d_Model_joins_284 rfl mv_Model_lays lk_Model_457 rfl (hM.k rfl) rfl rfl rfl (Nat.le_refl _) (Nat.le_refl _) (sp_Model_lays hM (by omega) (by omega) (by omega) (fun _ => ⟨by omega, by omega⟩) (fun y => absurd rfl y)) rfl rfl ?_
                  refine VW.iinc (pc' := 290) d_Model_joins_287 rfl rfl rfl (by omega) ?_
                  refine VW.goto (pc' := 335) d_Model_joins_290 rfl ?_
                  refine VW.iinc (pc' := 338) d_Model_joins_335 rfl rfl rfl (by omega) ?_
                  refine VW.goto (pc' := 87) d_Model_joins_338 rfl ?_
                  refine VW.pick [0, 1, 2, 3, 4, 5, 6, 7, 8, 9, 10] ?_
                  first | exact nT1 (Or.inl ⟨c246, by omega⟩) | exact nT1 (Or.inr ⟨c256, by omega⟩) | exact nT2 ⟨Or.inl c295, by omega⟩ | exact nT2 ⟨Or.inr c300, by omega⟩ | exact nT0 (by omega) (by omega) | (exfalso; omega)
            · refine VW.iload (pc' := 251) d_Model_joins_249 rfl rfl ?_
              refine VW.if_gt (tgt := 264) (pc' := 254) d_Model_joins_251 rfl rfl (fun c251 => ?_) (fun c251 => ?_)
              · refine VW.aload_n (pc' := 265) d_Model_joins_264 rfl rfl ?_
                refine VW.iload (pc' := 267) d_Model_joins_265 rfl rfl ?_
                refine VW.iload (pc' := 269) d_Model_joins_267 rfl rfl ?_
                refine VW.iload (pc' := 271) d_Model_joins_269 rfl rfl ?_
                refine VW.imul (pc' := 272) d_Model_joins_271 rfl (by omega) ?_
                refine VW.iadd (pc' := 273) d_Model_joins_272 rfl (by omega) ?_
                refine VW.iload_n (pc' := 274) d_Model_joins_273 rfl rfl ?_
                refine VW.iload (pc' := 276) d_Model_joins_274 rfl rfl ?_
                refine VW.iload (pc' := 278) d_Model_joins_276 rfl rfl ?_
                refine VW.imul (pc' := 279) d_Model_joins_278 rfl (by omega) ?_
                refine VW.iadd (pc' := 280) d_Model_joins_279 rfl (by omega) ?_
                refine VW.iload (pc' := 282) d_Model_joins_280 rfl rfl ?_
                refine VW.iconst (pc' := 283) d_Model_joins_282 rfl (by decide) ?_
                refine VW.iconst (pc' := 284) d_Model_joins_283 rfl (by decide) ?_
                refine VW.cV (ci := 11) (T := T11) (N := 94) (pc' := 287) d_Model_joins_284 rfl mv_Model_lays lk_Model_457 rfl (hM.k rfl) rfl rfl rfl (Nat.le_refl _) (Nat.le_refl _) (sp_Model_lays hM (by omega) (by omega) (by omega) (fun _ => ⟨by omega, by omega⟩) (fun y => absurd rfl y)) rfl rfl ?_
                refine VW.iinc (pc' := 290) d_Model_joins_287 rfl rfl rfl (by omega) ?_
                refine VW.goto (pc' := 335) d_Model_joins_290 rfl ?_
                refine VW.iinc (pc' := 338) d_Model_joins_335 rfl rfl rfl (by omega) ?_
                refine VW.goto (pc' := 87) d_Model_joins_338 rfl ?_
                refine VW.pick [0, 1, 2, 3, 4, 5, 6, 7, 8, 9, 10] ?_
                first | exact nT1 (Or.inl ⟨c246, by omega⟩) | exact nT1 (Or.inr ⟨c256, by omega⟩) | exact nT2 ⟨Or.inl c295, by omega⟩ | exact nT2 ⟨Or.inr c300, by omega⟩ | exact nT0 (by omega) (by omega) | (exfalso; omega)
              · refine VW.iload_n (pc' := 255) d_Model_joins_254 rfl rfl ?_
                refine VW.iconst (pc' := 256) d_Model_joins_255 rfl (by decide) ?_
                refine VW.icmp_ne (tgt := 293) (pc' := 259) d_Model_joins_256 rfl rfl (fun c256 => ?_) (fun c256 => ?_)
                · refine VW.iload_n (pc' := 294) d_Model_joins_293 rfl rfl ?_
                  refine VW.iconst (pc' := 295) d_Model_joins_294 rfl (by decide) ?_
                  refine VW.icmp_eq (tgt := 303) (pc' := 298) d_Model_joins_295 rfl rfl (fun c295 => ?_) (fun c295 => ?_)
                  · refine VW.iload (pc' := 305) d_Model_joins_303 rfl rfl ?_
                    refine VW.if_ne (tgt := 335) (pc' := 308) d_Model_joins_305 rfl rfl (fun c305 => ?_) (fun c305 => ?_)
                    · try have e305 := bIn c305
                      refine VW.iinc (pc' := 338) d_Model_joins_335 rfl rfl rfl (by omega) ?_
                      refine VW.goto (pc' := 87) d_Model_joins_338 rfl ?_
                      refine VW.pick [0, 1, 2, 3, 4, 5, 6, 7, 8, 9, 10] ?_
                      first | exact nT1 (Or.inl ⟨c246, by omega⟩) | exact nT1 (Or.inr ⟨c256, by omega⟩) | exact nT2 ⟨Or.inl c295, by omega⟩ | exact nT2 ⟨Or.inr c300, by omega⟩ | exact nT0 (by omega) (by omega) | (exfalso; omega)
                    · try have e305 := bIe c305
                      refine VW.aload_n (pc' := 309) d_Model_joins_308 rfl rfl ?_
                      refine VW.iload (pc' := 311) d_Model_joins_309 rfl rfl ?_
                      refine VW.iload (pc' := 313) d_Model_joins_311 rfl rfl ?_
                      refine VW.iload (pc' := 315) d_Model_joins_313 rfl rfl ?_
                      refine VW.imul (pc' := 316) d_Model_joins_315 rfl (by omega) ?_
                      refine VW.iadd (pc' := 317) d_Model_joins_316 rfl (by omega) ?_
                      refine VW.iload_n (pc' := 318) d_Model_joins_317 rfl rfl ?_
                      refine VW.iload (pc' := 320) d_Model_joins_318 rfl rfl ?_
                      refine VW.iload (pc' := 322) d_Model_joins_320 rfl rfl ?_
                      refine VW.imul (pc' := 323) d_Model_joins_322 rfl (by omega) ?_
                      refine VW.iadd (pc' := 324) d_Model_joins_323 rfl (by omega) ?_
                      refine VW.iload (pc' := 326) d_Model_joins_324 rfl rfl ?_
                      refine VW.iconst (pc' := 327) d_Model_joins_326 rfl (by decide) ?_
                      refine VW.iload (pc' := 329) d_Model_joins_327 rfl rfl ?_
                      refine VW.cV (ci := 11) (T := T11) (N := 94) (pc' := 332) d_Model_joins_329 rfl mv_Model_lays lk_Model_457 rfl (hM.k rfl) rfl rfl rfl (Nat.le_refl _) (Nat.le_refl _) (sp_Model_lays hM (by omega) (by omega) (by omega) (fun _ => ⟨by omega, by omega⟩) (fun y => absurd rfl y)) rfl rfl ?_
                      refine VW.iinc (pc' := 335) d_Model_joins_332 rfl rfl rfl (by omega) ?_
                      refine VW.iinc (pc' := 338) d_Model_joins_335 rfl rfl rfl (by omega) ?_
                      refine VW.goto (pc' := 87) d_Model_joins_338 rfl ?_
                      refine VW.pick [0, 1, 2, 3, 4, 5, 6, 7, 8, 9, 10] ?_
                      first | exact nT1 (Or.inl ⟨c246, by omega⟩) | exact nT1 (Or.inr ⟨c256, by omega⟩) | exact nT2 ⟨Or.inl c295, by omega⟩ | exact nT2 ⟨Or.inr c300, by omega⟩ | exact nT0 (by omega) (by omega) | (exfalso; omega)
                  · refine VW.iload_n (pc' := 299) d_Model_joins_298 rfl rfl ?_
                    refine VW.iconst (pc' := 300) d_Model_joins_299 rfl (by decide) ?_
                    refine VW.icmp_ne (tgt := 335) (pc' := 303) d_Model_joins_300 rfl rfl (fun c300 => ?_) (fun c300 => ?_)
                    · refine VW.iinc (pc' := 338) d_Model_joins_335 rfl rfl rfl (by omega) ?_
                      refine VW.goto (pc' := 87) d_Model_joins_338 rfl ?_
                      refine VW.pick [0, 1, 2, 3, 4, 5, 6, 7, 8, 9, 10] ?_
                      first | exact nT1 (Or.inl ⟨c246, by omega⟩) | exact nT1 (Or.inr ⟨c256, by omega⟩) | exact nT2 ⟨Or.inl c295, by omega⟩ | exact nT2 ⟨Or.inr c300, by omega⟩ | exact nT0 (by omega) (by omega) | (exfalso; omega)
                    · refine VW.iload (pc' := 305) d_Model_joins_303 rfl rfl ?_
                      refine VW.if_ne (tgt := 335) (pc' := 308) d_Model_joins_305 rfl rfl (fun c305 => ?_) (fun c305 => ?_)
                      · try have e305 := bIn c305
                        refine VW.iinc (pc' := 338) d_Model_joins_335 rfl rfl rfl (by omega) ?_
                        refine VW.goto (pc' := 87) d_Model_joins_338 rfl ?_
                        refine VW.pick [0, 1, 2, 3, 4, 5, 6, 7, 8, 9, 10] ?_
                        first | exact nT1 (Or.inl ⟨c246, by omega⟩) | exact nT1 (Or.inr ⟨c256, by omega⟩) | exact nT2 ⟨Or.inl c295, by omega⟩ | exact nT2 ⟨Or.inr c300, by omega⟩ | exact nT0 (by omega) (by omega) | (exfalso; omega)
                      · try have e305 := bIe c305
                        refine VW.aload_n (pc' := 309) d_Model_joins_308 rfl rfl ?_
                        refine VW.iload (pc' := 311) d_Model_joins_309 rfl rfl ?_
                        refine VW.iload (pc' := 313) d_Model_joins_311 rfl rfl ?_
                        refine VW.iload (pc' := 315) d_Model_joins_313 rfl rfl ?_
                        refine VW.imul (pc' := 316) d_Model_joins_315 rfl (by omega) ?_
                        refine VW.iadd (pc' := 317) d_Model_joins_316 rfl (by omega) ?_
                        refine VW.iload_n (pc' := 318) d_Model_joins_317 rfl rfl ?_
                        refine VW.iload (pc' := 320) d_Model_joins_318 rfl rfl ?_
                        refine VW.iload (pc' := 322) d_Model_joins_320 rfl rfl ?_
                        refine VW.imul (pc' := 323) d_Model_joins_322 rfl (by omega) ?_
                        refine VW.iadd (pc' := 324) d_Model_joins_323 rfl (by omega) ?_
                        refine VW.iload (pc' := 326) d_Model_joins_324 rfl rfl ?_
                        refine VW.iconst (pc' := 327) d_Model_joins_326 rfl (by decide) ?_
                        refine VW.iload (pc' := 329) d_Model_joins_327 rfl rfl ?_
                        refine VW.cV (ci := 11) (T := T11) (N := 94) (pc' := 332) d_Model_joins_329 rfl mv_Model_lays lk_Model_457 rfl (hM.k rfl) rfl rfl rfl (Nat.le_refl _) (Nat.le_refl _) (sp_Model_lays hM (by omega) (by omega) (by omega) (fun _ => ⟨by omega, by omega⟩) (fun y => absurd rfl y)) rfl rfl ?_
                        refine VW.iinc (pc' := 335) d_Model_joins_332 rfl rfl rfl (by omega) ?_
                        refine VW.iinc (pc' := 338) d_Model_joins_335 rfl rfl rfl (by omega) ?_
                        refine VW.goto (pc' := 87) d_Model_joins_338 rfl ?_
                        refine VW.pick [0, 1, 2, 3, 4, 5, 6, 7, 8, 9, 10] ?_
                        first | exact nT1 (Or.inl ⟨c246, by omega⟩) | exact nT1 (Or.inr ⟨c256, by omega⟩) | exact nT2 ⟨Or.inl c295, by omega⟩ | exact nT2 ⟨Or.inr c300, by omega⟩ | exact nT0 (by omega) (by omega) | (exfalso; omega)
                · refine VW.iload (pc' := 261) d_Model_joins_259 rfl rfl ?_
                  refine VW.if_ne (tgt := 293) (pc' := 264) d_Model_joins_261 rfl rfl (fun c261 => ?_) (fun c261 => ?_)
                  · try have e261 := bIn c261
                    refine VW.iload_n (pc' := 294) d_Model_joins_293 rfl rfl ?_
                    refine VW.iconst (pc' := 295) d_Model_joins_294 rfl (by decide) ?_
                    refine VW.icmp_eq (tgt := 303) (pc' := 298) d_Model_joins_295 rfl rfl (fun c295 => ?_) (fun c295 => ?_)
                    · refine VW.iload (pc' := 305) d_Model_joins_303 rfl rfl ?_
                      refine VW.if_ne (tgt := 335) (pc' := 308) d_Model_joins_305 rfl rfl (fun c305 => ?_) (fun c305 => ?_)
                      · try have e305 := bIn c305
                        refine VW.iinc (pc' := 338) d_Model_joins_335 rfl rfl rfl (by omega) ?_
                        refine VW.goto (pc' := 87) d_Model_joins_338 rfl ?_
                        refine VW.pick [0, 1, 2, 3, 4, 5, 6, 7, 8, 9, 10] ?_
                        first | exact nT1 (Or.inl ⟨c246, by omega⟩) | exact nT1 (Or.inr ⟨c256, by omega⟩) | exact nT2 ⟨Or.inl c295, by omega⟩ | exact nT2 ⟨Or.inr c300, by omega⟩ | exact nT0 (by omega) (by omega) | (exfalso; omega)
                      · try have e305 := bIe c305
                        refine VW.aload_n (pc' := 309) d_Model_joins_308 rfl rfl ?_
                        refine VW.iload (pc' := 311) d_Model_joins_309 rfl rfl ?_
                        refine VW.iload (pc' := 313) d_Model_joins_311 rfl rfl ?_
                        refine VW.iload (pc' := 315) d_Model_joins_313 rfl rfl ?_
                        refine VW.imul (pc' := 316) d_Model_joins_315 rfl (by omega) ?_
                        refine VW.iadd (pc' := 317) d_Model_joins_316 rfl (by omega) ?_
                        refine VW.iload_n (pc' := 318) d_Model_joins_317 rfl rfl ?_
                        refine VW.iload (pc' := 320) d_Model_joins_318 rfl rfl ?_
                        refine VW.iload (pc' := 322) d_Model_joins_320 rfl rfl ?_
                        refine VW.imul (pc' := 323) d_Model_joins_322 rfl (by omega) ?_
                        refine VW.iadd (pc' := 324) d_Model_joins_323 rfl (by omega) ?_
                        refine VW.iload (pc' := 326) d_Model_joins_324 rfl rfl ?_
                        refine VW.iconst (pc' := 327) d_Model_joins_326 rfl (by decide) ?_
                        refine VW.iload (pc' := 329) d_Model_joins_327 rfl rfl ?_
                        refine VW.cV (ci := 11) (T := T11) (N := 94) (pc' := 332) d_Model_joins_329 rfl mv_Model_lays lk_Model_457 rfl (hM.k rfl) rfl rfl rfl (Nat.le_refl _) (Nat.le_refl _) (sp_Model_lays hM (by omega) (by omega) (by omega) (fun _ => ⟨by omega, by omega⟩) (fun y => absurd rfl y)) rfl rfl ?_
                        refine VW.iinc (pc' := 335) d_Model_joins_332 rfl rfl rfl (by omega) ?_
                        refine VW.iinc (pc' := 338) d_Model_joins_335 rfl rfl rfl (by omega) ?_
                        refine VW.goto (pc' := 87) d_Model_joins_338 rfl ?_
                        refine VW.pick [0, 1, 2, 3, 4, 5, 6, 7, 8, 9, 10] ?_
                        first | exact nT1 (Or.inl ⟨c246, by omega⟩) | exact nT1 (Or.inr ⟨c256, by omega⟩) | exact nT2 ⟨Or.inl c295, by omega⟩ | exact nT2 ⟨Or.inr c300, by omega⟩ | exact nT0 (by omega) (by omega) | (exfalso; omega)
                    · refine VW.iload_n (pc' := 299) d_Model_joins_298 rfl rfl ?_
                      refine VW.iconst (pc' := 300) d_Model_joins_299 rfl (by decide) ?_
                      refine VW.icmp_ne (tgt := 335) (pc' := 303) d_Model_joins_300 rfl rfl (fun c300 => ?_) (fun c300 => ?_)
                      · refine VW.iinc (pc' := 338) d_Model_joins_335 rfl rfl rfl (by omega) ?_
                        refine VW.goto (pc' := 87) d_Model_joins_338 rfl ?_
                        refine VW.pick [0, 1, 2, 3, 4, 5, 6, 7, 8, 9, 10] ?_
                        first | exact nT1 (Or.inl ⟨c246, by omega⟩) | exact nT1 (Or.inr ⟨c256, by omega⟩) | exact nT2 ⟨Or.inl c295, by omega⟩ | exact nT2 ⟨Or.inr c300, by omega⟩ | exact nT0 (by omega) (by omega) | (exfalso; omega)
                      · refine VW.iload (pc' := 305) d_Model_joins_303 rfl rfl ?_
                        refine VW.if_ne (tgt := 335) (pc' := 308) d_Model_joins_305 rfl rfl (fun c305 => ?_) (fun c305 => ?_)
                        · try have e305 := bIn c305
                          refine VW.iinc (pc' := 338) d_Model_joins_335 rfl rfl rfl (by omega) ?_
                          refine VW.goto (pc' := 87) d_Model_joins_338 rfl ?_
                          refine VW.pick [0, 1, 2, 3, 4, 5, 6, 7, 8, 9, 10] ?_
                          first | exact nT1 (Or.inl ⟨c246, by omega⟩) | exact nT1 (Or.inr ⟨c256, by omega⟩) | exact nT2 ⟨Or.inl c295, by omega⟩ | exact nT2 ⟨Or.inr c300, by omega⟩ | exact nT0 (by omega) (by omega) | (exfalso; omega)
                        · try have e305 := bIe c305
                          refine VW.aload_n (pc' := 309) d_Model_joins_308 rfl rfl ?_
                          refine VW.iload (pc' := 311) d_Model_joins_309 rfl rfl ?_
                          refine VW.iload (pc' := 313) d_Model_joins_311 rfl rfl ?_
                          refine VW.iload (pc' := 315) d_Model_joins_313 rfl rfl ?_
                          refine VW.imul (pc' := 316) d_Model_joins_315 rfl (by omega) ?_
                          refine VW.iadd (pc' := 317) d_Model_joins_316 rfl (by omega) ?_
                          refine VW.iload_n (pc' := 318) d_Model_joins_317 rfl rfl ?_
                          refine VW.iload (pc' := 320) d_Model_joins_318 rfl rfl ?_
                          refine VW.iload (pc' := 322) d_Model_joins_320 rfl rfl ?_
                          refine VW.imul (pc' := 323) d_Model_joins_322 rfl (by omega) ?_
                          refine VW.iadd (pc' := 324) d_Model_joins_323 rfl (by omega) ?_
                          refine VW.iload (pc' := 326) d_Model_joins_324 rfl rfl ?_
                          refine VW.iconst (pc' := 327) d_Model_joins_326 rfl (by decide) ?_
                          refine VW.iload (pc' := 329) d_Model_joins_327 rfl rfl ?_
                          refine VW.cV (ci := 11) (T := T11) (N := 94) (pc' := 332) d_Model_joins_329 rfl mv_Model_lays lk_Model_457 rfl (hM.k rfl) rfl rfl rfl (Nat.le_refl _) (Nat.le_refl _) (sp_Model_lays hM (by omega) (by omega) (by omega) (fun _ => ⟨by omega, by omega⟩) (fun y => absurd rfl y)) rfl rfl ?_
                          refine VW.iinc (pc' := 335) d_Model_joins_332 rfl rfl rfl (by omega) ?_
                          refine VW.iinc (pc' := 338) d_Model_joins_335 rfl rfl rfl (by omega) ?_
                          refine VW.goto (pc' := 87) d_Model_joins_338 rfl ?_
                          refine VW.pick [0, 1, 2, 3, 4, 5, 6, 7, 8, 9, 10] ?_
                          first | exact nT1 (Or.inl ⟨c246, by omega⟩) | exact nT1 (Or.inr ⟨c256, by omega⟩) | exact nT2 ⟨Or.inl c295, by omega⟩ | exact nT2 ⟨Or.inr c300, by omega⟩ | exact nT0 (by omega) (by omega) | (exfalso; omega)
                  · try have e261 := bIe c261
                    refine VW.aload_n (pc' := 265) d_Model_joins_264 rfl rfl ?_
                    refine VW.iload (pc' := 267) d_Model_joins_265 rfl rfl ?_
                    refine VW.iload (pc' := 269) d_Model_joins_267 rfl rfl ?_
                    refine VW.iload (pc' := 271) d_Model_joins_269 rfl rfl ?_
                    refine VW.imul (pc' := 272) d_Model_joins_271 rfl (by omega) ?_
                    refine VW.iadd (pc' := 273) d_Model_joins_272 rfl (by omega) ?_
                    refine VW.iload_n (pc' := 274) d_Model_joins_273 rfl rfl ?_
                    refine VW.iload (pc' := 276) d_Model_joins_274 rfl rfl ?_
                    refine VW.iload (pc' := 278) d_Model_joins_276 rfl rfl ?_
                    refine VW.imul (pc' := 279) d_Model_joins_278 rfl (by omega) ?_
                    refine VW.iadd (pc' := 280) d_Model_joins_279 rfl (by omega) ?_
                    refine VW.iload (pc' := 282) d_Model_joins_280 rfl rfl ?_
                    refine VW.iconst (pc' := 283) d_Model_joins_282 rfl (by decide) ?_
                    refine VW.iconst (pc' := 284) d_Model_joins_283 rfl (by decide) ?_
                    refine VW.cV (ci := 11) (T := T11) (N := 94) (pc' := 287) d_Model_joins_284 rfl mv_Model_lays lk_Model_457 rfl (hM.k rfl) rfl rfl rfl (Nat.le_refl _) (Nat.le_refl _) (sp_Model_lays hM (by omega) (by omega) (by omega) (fun _ => ⟨by omega, by omega⟩) (fun y => absurd rfl y)) rfl rfl ?_
                    refine VW.iinc (pc' := 290) d_Model_joins_287 rfl rfl rfl (by omega) ?_
                    refine VW.goto (pc' := 335) d_Model_joins_290 rfl ?_
                    refine VW.iinc (pc' := 338) d_Model_joins_335 rfl rfl rfl (by omega) ?_
                    refine VW.goto (pc' := 87) d_Model_joins_338 rfl ?_
                    refine VW.pick [0, 1, 2, 3, 4, 5, 6, 7, 8, 9, 10] ?_
                    first | exact nT1 (Or.inl ⟨c246, by omega⟩) | exact nT1 (Or.inr ⟨c256, by omega⟩) | exact nT2 ⟨Or.inl c295, by omega⟩ | exact nT2 ⟨Or.inr c300, by omega⟩ | exact nT0 (by omega) (by omega) | (exfalso; omega)
          · exfalso; omega
        | succ l2 ihi =>
          intro j g c T hj hT hc hg
          obtain ⟨vL, t2, t3⟩ := rdL T hT.2 i (by omega)
          obtain ⟨vR1, s2, s3⟩ := rdR T hT.2 j (by omega)
          have g71 : T 100 71 = r + 2 := (hT.2 100 71 (by omega)).trans hr
          have g273 : T 273 (r + 2 - 1) = n2 := by rw [show r + 2 - 1 = r + 1 by omega, hT.2 273 (r + 1) (by omega)]; exact hn2
          have g258 : T 258 x = I 258 x := hT.2 258 x (by omega)
          have g259 : T 259 x = I 259 x := hT.2 259 x (by omega)
          have eg : ((g + 1 : Nat) : Int) = (g : Int) + 1 := by omega
          have ej : ((j + 1 : Nat) : Int) = (j : Int) + 1 := by omega
          have ec : ((c + 1 : Nat) : Int) = (c : Int) + 1 := by omega
          have gw := gW g (by omega)
          have wsum := hwe.2
          have nY2 : cmp3 (nth (rowAt I 270 (a + (wa : Int) * (i : Int)) wa) (I 258 x)) 1 (nth (rowAt I 270 (b + (wb : Int) * (j : Int)) wb) (I 259 x)) = 1 → I 257 x ≤ 2 → VW m_Model_joins false (rmv 1 26) (exU K P J (.inl none) (fun I' => (I' 100 71 = r + 1 ∧ I' 273 r = (joinL (I 257 x) (I 258 x) (I 259 x) wa wb (seg I 270 a wa n1) (seg I 270 b wb n2)).length ∧ I' 274 r = w ∧ seg I' 270 a w (joinL (I 257 x) (I 258 x) (I 259 x) wa wb (seg I 270 a wa n1) (seg I 270 b wb n2)).length = (joinL (I 257 x) (I 258 x) (I 259 x) wa wb (seg I 270 a wa n1) (seg I 270 b wb n2))) ∧ ∀ (o : Nat) (q : Int), ¬ (o = 270 ∧ a ≤ q) → ¬ (o = 273 ∧ q = r) → ¬ (o = 274 ∧ q = r) → ¬ (o = 100 ∧ q = 71) → I' o q = I o q)) K P J (layB T (m + (w : Int) * (g : Int)) (a + (wa : Int) * (i : Int)) wa (b + (wb : Int) * (j : Int)) wb) 0 0 109 [(0, vR (some 100)), (1, vI x), (2, vI (I 257 x)), (3, vI a), (4, vI b), (5, vI (wa : Int)), (6, vI (wb : Int)), (7, vI (w : Int)), (8, vI m), (9, vI ((g : Int) + 1)), (10, vI (i : Int)), (11, vI ((c : Int) + 1)), (12, vI ((j : Int) + 1))] [] := fun z z2 => by
            have hA := hT.add (a := a + (wa : Int) * (i : Int)) (b := b + (wb : Int) * (j : Int)) (va := wa) (vb := wb) (hwe.2 z2) (fun y => ⟨by omega, by omega⟩) (fun y => ⟨by omega, by omega⟩)
            have := ihi (j + 1) (g + 1) (c + 1) _ (by omega) (by
              rw [seg_succ, flt_yes (p := mt2 (I 258 x) (I 259 x) (rowAt I 270 (a + (wa : Int) * (i : Int)) wa)) z, jM_add z2, ← List.append_assoc]
              rw [part_row (by omega), part_row (by omega)] at hA
              exact hA) (by rw [seg_succ, flt_yes (p := mt2 (I 258 x) (I 259 x) (rowAt I 270 (a + (wa : Int) * (i : Int)) wa)) z, List.length_append, ← hc]; rfl) (by omega)
            rw [eg, ej, ec] at this
            exact this
          have nY1 : cmp3 (nth (rowAt I 270 (a + (wa : Int) * (i : Int)) wa) (I 258 x)) 1 (nth (rowAt I 270 (b + (wb : Int) * (j : Int)) wb) (I 259 x)) = 1 → ¬ I 257 x ≤ 2 → VW m_Model_joins false (rmv 1 26) (exU K P J (.inl none) (fun I' => (I' 100 71 = r + 1 ∧ I' 273 r = (joinL (I 257 x) (I 258 x) (I 259 x) wa wb (seg I 270 a wa n1) (seg I 270 b wb n2)).length ∧ I' 274 r = w ∧ seg I' 270 a w (joinL (I 257 x) (I 258 x) (I 259 x) wa wb (seg I 270 a wa n1) (seg I 270 b wb n2)).length = (joinL (I 257 x) (I 258 x) (I 259 x) wa wb (seg I 270 a wa n1) (seg I 270 b wb n2))) ∧ ∀ (o : Nat) (q : Int), ¬ (o = 270 ∧ a ≤ q) → ¬ (o = 273 ∧ q = r) → ¬ (o = 274 ∧ q = r) → ¬ (o = 100 ∧ q = 71) → I' o q = I o q)) K P J T 0 0 109 [(0, vR (some 100)), (1, vI x), (2, vI (I 257 x)), (3, vI a), (4, vI b), (5, vI (wa : Int)), (6, vI (wb : Int)), (7, vI (w : Int)), (8, vI m), (9, vI (g : Int)), (10, vI (i : Int)), (11, vI ((c : Int) + 1)), (12, vI ((j : Int) + 1))] [] := fun z z2 => by
            have := ihi (j + 1) g (c + 1) _ (by omega) (by
              rw [seg_succ, flt_yes (p := mt2 (I 258 x) (I 259 x) (rowAt I 270 (a + (wa : Int) * (i : Int)) wa)) z, jM_no z2]
              exact hT) (by rw [seg_succ, flt_yes (p := mt2 (I 258 x) (I 259 x) (rowAt I 270 (a + (wa : Int) * (i : Int)) wa)) z, List.length_append, ← hc]; rfl) (by omega)
            rw [ej, ec] at this
            exact this
          have nN : cmp3 (nth (rowAt I 270 (a + (wa : Int) * (i : Int)) wa) (I 258 x)) 1 (nth (rowAt I 270 (b + (wb : Int) * (j : Int)) wb) (I 259 x)) ≠ 1 → VW m_Model_joins false (rmv 1 26) (exU K P J (.inl none) (fun I' => (I' 100 71 = r + 1 ∧ I' 273 r = (joinL (I 257 x) (I 258 x) (I 259 x) wa wb (seg I 270 a wa n1) (seg I 270 b wb n2)).length ∧ I' 274 r = w ∧ seg I' 270 a w (joinL (I 257 x) (I 258 x) (I 259 x) wa wb (seg I 270 a wa n1) (seg I 270 b wb n2)).length = (joinL (I 257 x) (I 258 x) (I 259 x) wa wb (seg I 270 a wa n1) (seg I 270 b wb n2))) ∧ ∀ (o : Nat) (q : Int), ¬ (o = 270 ∧ a ≤ q) → ¬ (o = 273 ∧ q = r) → ¬ (o = 274 ∧ q = r) → ¬ (o = 100 ∧ q = 71) → I' o q = I o q)) K P J T 0 0 109 [(0, vR (some 100)), (1, vI x), (2, vI (I 257 x)), (3, vI a), (4, vI b), (5, vI (wa : Int)), (6, vI (wb : Int)), (7, vI (w : Int)), (8, vI m), (9, vI (g : Int)), (10, vI (i : Int)), (11, vI ((c : Int) + 0)), (12, vI ((j : Int) + 1))] [] := fun z => by
            have := ihi (j + 1) g c _ (by omega) (by
              rw [seg_succ, flt_no (p := mt2 (I 258 x) (I 259 x) (rowAt I 270 (a + (wa : Int) * (i : Int)) wa)) z]
              exact hT) (by rw [seg_succ, flt_no (p := mt2 (I 258 x) (I 259 x) (rowAt I 270 (a + (wa : Int) * (i : Int)) wa)) z]; exact hc) (by omega)
            rw [ej] at this
            rw [Int.add_zero]
            exact this
          have cb : (c : Int) ≤ 600 := by have := @flt_len (mt2 (I 258 x) (I 259 x) (rowAt I 270 (a + (wa : Int) * (i : Int)) wa)) (seg I 270 b wb j); rw [seg_len] at this; omega
          clear hT hc rdL rdR ihi ihn gW
          refine VW.iload (pc' := 111) d_Model_joins_109 rfl rfl ?_
          refine VW.aload_n (pc' := 112) d_Model_joins_111 rfl rfl ?_
          refine VW.gP (ci := 11) (T := T11) (N := 94) (k := 73) (k' := 73) (pc' := 115) d_Model_joins_112 rfl lk_Model_184 in11 rfl rfl rfl rfl (hM.k rfl) (hM.p (r := some 273) 73 rfl rfl) ?_
          refine VW.aload_n (pc' := 116) d_Model_joins_115 rfl rfl ?_
          refine VW.gI (ci := 11) (T := T11) (N := 94) (k := 71) (k' := 71) (pc' := 119) d_Model_joins_116 rfl lk_Model_434 in11 rfl rfl rfl rfl (hM.k rfl) (by first | exact g71 | exact g273 | exact g273a | exact g258 | exact g259 | exact vL | exact vR1 | rfl) ?_
          refine VW.iconst (pc' := 120) d_Model_joins_119 rfl (by decide) ?_
          refine VW.isub (pc' := 121) d_Model_joins_120 rfl (by omega) ?_
          refine VW.ild (pc' := 122) d_Model_joins_121 rfl (hM.k rfl) (by omega) (by omega) (by first | exact g71 | exact g273 | exact g273a | exact g258 | exact g259 | exact vL | exact vR1 | rfl) ?_
          refine VW.icmp_ge (tgt := 244) (pc' := 125) d_Model_joins_122 rfl rfl (fun c122 => ?_) (fun c122 => ?_)
          · exfalso; omega
          · refine VW.aload_n (pc' := 126) d_Model_joins_125 rfl rfl ?_
            refine VW.gP (ci := 11) (T := T11) (N := 94) (k := 70) (k' := 70) (pc' := 129) d_Model_joins_126 rfl lk_Model_178 in11 rfl rfl rfl rfl (hM.k rfl) (hM.p (r := some 270) 70 rfl rfl) ?_
            refine VW.iload_n (pc' := 130) d_Model_joins_129 rfl rfl ?_
            refine VW.iload (pc' := 132) d_Model_joins_130 rfl rfl ?_
            refine VW.iload (pc' := 134) d_Model_joins_132 rfl rfl ?_
            refine VW.imul (pc' := 135) d_Model_joins_134 rfl (by omega) ?_
            refine VW.iadd (pc' := 136) d_Model_joins_135 rfl (by omega) ?_
            refine VW.aload_n (pc' := 137) d_Model_joins_136 rfl rfl ?_
            refine VW.gP (ci := 11) (T := T11) (N := 94) (k := 58) (k' := 58) (pc' := 140) d_Model_joins_137 rfl lk_Model_150 in11 rfl rfl rfl rfl (hM.k rfl) (hM.p (r := some 258) 58 rfl rfl) ?_
            refine VW.iload_n (pc' := 141) d_Model_joins_140 rfl rfl ?_
            refine VW.ild (pc' := 142) d_Model_joins_141 rfl (hM.k rfl) (by omega) (by omega) (by first | exact g71 | exact g273 | exact g273a | exact g258 | exact g259 | exact vL | exact vR1 | rfl) ?_
            refine VW.iadd (pc' := 143) d_Model_joins_142 rfl (by omega) ?_
            refine VW.ild (pc' := 144) d_Model_joins_143 rfl (hM.k rfl) (by omega) (by omega) (by first | exact g71 | exact g273 | exact g273a | exact g258 | exact g259 | exact vL | exact vR1 | rfl) ?_
            refine VW.iconst (pc' := 145) d_Model_joins_144 rfl (by decide) ?_
            refine VW.aload_n (pc' := 146) d_Model_joins_145 rfl rfl ?_
            refine VW.gP (ci := 11) (T := T11) (N := 94) (k := 70) (k' := 70) (pc' := 149) d_Model_joins_146 rfl lk_Model_178 in11 rfl rfl rfl rfl (hM.k rfl) (hM.p (r := some 270) 70 rfl rfl) ?_
            refine VW.iload (pc' := 151) d_Model_joins_149 rfl rfl ?_
            refine VW.iload (pc' := 153) d_Model_joins_151 rfl rfl ?_
            refine VW.iload (pc' := 155) d_Model_joins_153 rfl rfl ?_
            refine VW.imul (pc' := 156) d_Model_joins_155 rfl (by omega) ?_
            refine VW.iadd (pc' := 157) d_Model_joins_156 rfl (by omega) ?_
            refine VW.aload_n (pc' := 158) d_Model_joins_157 rfl rfl ?_
            refine VW.gP (ci := 11) (T := T11) (N := 94) (k := 59) (k' := 59) (pc' := 161) d_Model_joins_158 rfl lk_Model_153 in11 rfl rfl rfl rfl (hM.k rfl) (hM.p (r := some 259) 59 rfl rfl) ?_
            refine VW.iload_n (pc' := 162) d_Model_joins_161 rfl rfl ?_
            refine VW.ild (pc' := 163) d_Model_joins_162 rfl (hM.k rfl) (by omega) (by omega) (by first | exact g71 | exact g273 | exact g273a | exact g258 | exact g259 | exact vL | exact vR1 | rfl) ?_
            refine VW.iadd (pc' := 164) d_Model_joins_163 rfl (by omega) ?_
            refine VW.ild (pc' := 165) d_Model_joins_164 rfl (hM.k rfl) (by omega) (by omega) (by first | exact g71 | exact g273 | exact g273a | exact g258 | exact g259 | exact vL | exact vR1 | rfl) ?_
            refine VW.cS (pc' := 168) d_Model_joins_165 rfl ms_Model_compares lk_Model_281 rfl rfl rfl (Nat.le_refl _) (Nat.le_refl _) (sp_Model_compares) rfl rfl ?_
            refine VW.iconst (pc' := 169) d_Model_joins_168 rfl (by decide) ?_
            refine VW.icmp_ne (tgt := 176) (pc' := 172) d_Model_joins_169 rfl rfl (fun c169 => ?_) (fun c169 => ?_)
            · refine VW.iconst (pc' := 177) d_Model_joins_176 rfl (by decide) ?_
              refine VW.istore (pc' := 179) d_Model_joins_177 rfl rfl ?_
              refine VW.iload (pc' := 181) d_Model_joins_179 rfl rfl ?_
              refine VW.iload (pc' := 183) d_Model_joins_181 rfl rfl ?_
              refine VW.if_eq (tgt := 190) (pc' := 186) d_Model_joins_183 rfl rfl (fun _ => ?_) (fun c183 => absurd c183 (by decide))
              refine VW.iconst (pc' := 191) d_Model_joins_190 rfl (by decide) ?_
              refine VW.iadd (pc' := 192) d_Model_joins_191 rfl (by omega) ?_
              refine VW.istore (pc' := 194) d_Model_joins_192 rfl rfl ?_
              refine VW.iload (pc' := 196) d_Model_joins_194 rfl rfl ?_
              refine VW.if_eq (tgt := 238) (pc' := 199) d_Model_joins_196 rfl rfl (fun _ => ?_) (fun c196 => absurd c196 (by decide))
              refine VW.iinc (pc' := 241) d_Model_joins_238 rfl rfl rfl (by omega) ?_
              refine VW.goto (pc' := 109) d_Model_joins_241 rfl ?_
              refine VW.pick [0, 1, 2, 3, 4, 5, 6, 7, 8, 9, 10, 11, 12] ?_
              first | exact nY2 c169 (by omega) | exact nY1 c169 (by omega) | exact nN c169
            · refine VW.iconst (pc' := 173) d_Model_joins_172 rfl (by decide) ?_
              refine VW.goto (pc' := 177) d_Model_joins_173 rfl ?_
              refine VW.istore (pc' := 179) d_Model_joins_177 rfl rfl ?_
              refine VW.iload (pc' := 181) d_Model_joins_179 rfl rfl ?_
              refine VW.iload (pc' := 183) d_Model_joins_181 rfl rfl ?_
              refine VW.if_eq (tgt := 190) (pc' := 186) d_Model_joins_183 rfl rfl (fun c183 => absurd c183 (by decide)) (fun _ => ?_)
              refine VW.iconst (pc' := 187) d_Model_joins_186 rfl (by decide) ?_
              refine VW.goto (pc' := 191) d_Model_joins_187 rfl ?_
              refine VW.iadd (pc' := 192) d_Model_joins_191 rfl (by omega) ?_
              refine VW.istore (pc' := 194) d_Model_joins_192 rfl rfl ?_
              refine VW.iload (pc' := 196) d_Model_joins_194 rfl rfl ?_
              refine VW.if_eq (tgt := 238) (pc' := 199) d_Model_joins_196 rfl rfl (fun c196 => absurd c196 (by decide)) (fun _ => ?_)
              refine VW.iload_n (pc' := 200) d_Model_joins_199 rfl rfl ?_
              refine VW.iconst (pc' := 201) d_Model_joins_200 rfl (by decide) ?_
              refine VW.icmp_gt (tgt := 238) (pc' := 204) d_Model_joins_201 rfl rfl (fun c201 => ?_) (fun c201 => ?_)
              · refine VW.iinc (pc' := 241) d_Model_joins_238 rfl rfl rfl (by omega) ?_
                refine VW.goto (pc' := 109) d_Model_joins_241 rfl ?_
                refine VW.pick [0, 1, 2, 3, 4, 5, 6, 7, 8, 9, 10, 11, 12] ?_
                first | exact nY2 c169 (by omega) | exact nY1 c169 (by omega) | exact nN c169
              · refine VW.aload_n (pc' := 205) d_Model_joins_204 rfl rfl ?_
                refine VW.iload (pc' := 207) d_Model_joins_205 rfl rfl ?_
                refine VW.iload (pc' := 209) d_Model_joins_207 rfl rfl ?_
                refine VW.iload (pc' := 211) d_Model_joins_209 rfl rfl ?_
                refine VW.imul (pc' := 212) d_Model_joins_211 rfl (by omega) ?_
                refine VW.iadd (pc' := 213) d_Model_joins_212 rfl (by omega) ?_
                refine VW.iload_n (pc' := 214) d_Model_joins_213 rfl rfl ?_
                refine VW.iload (pc' := 216) d_Model_joins_214 rfl rfl ?_
                refine VW.iload (pc' := 218) d_Model_joins_216 rfl rfl ?_
                refine VW.imul (pc' := 219) d_Model_joins_218 rfl (by omega) ?_
                refine VW.iadd (pc' := 220) d_Model_joins_219 rfl (by omega) ?_
                refine VW.iload (pc' := 222) d_Model_joins_220 rfl rfl ?_
                refine VW.iload (pc' := 224) d_Model_joins_222 rfl rfl ?_
                refine VW.iload (pc' := 226) d_Model_joins_224 rfl rfl ?_
                refine VW.iload (pc' := 228) d_Model_joins_226 rfl rfl ?_
                refine VW.imul (pc' := 229) d_Model_joins_228 rfl (by omega) ?_
                refine VW.iadd (pc' := 230) d_Model_joins_229 rfl (by omega) ?_
                refine VW.iload (pc' := 232) d_Model_joins_230 rfl rfl ?_
                refine VW.cV (ci := 11) (T := T11) (N := 94) (pc' := 235) d_Model_joins_232 rfl mv_Model_lays lk_Model_457 rfl (hM.k rfl) rfl rfl rfl (Nat.le_refl _) (Nat.le_refl _) (sp_Model_lays hM (by omega) (by omega) (by omega) (fun _ => ⟨by omega, by omega⟩) (fun _ => ⟨by omega, by omega⟩)) rfl rfl ?_
                refine VW.iinc (pc' := 238) d_Model_joins_235 rfl rfl rfl (by omega) ?_
                refine VW.iinc (pc' := 241) d_Model_joins_238 rfl rfl rfl (by omega) ?_
                refine VW.goto (pc' := 109) d_Model_joins_241 rfl ?_
                refine VW.pick [0, 1, 2, 3, 4, 5, 6, 7, 8, 9, 10, 11, 12] ?_
                first | exact nY2 c169 (by omega) | exact nY1 c169 (by omega) | exact nN c169
      have g71 : T0 100 71 = r + 2 := (hT0.2 100 71 (by omega)).trans hr
      have g273a : T0 273 (r + 2 - 2) = n1 := by rw [show r + 2 - 2 = r by omega, hT0.2 273 r (by omega)]; exact hn1
      have i0 := inner n2 0 g0 0 T0 (by omega) (by rw [seg_0, flt_nil]; unfold jM; simp only [List.map_nil]; rw [ite_self, List.append_nil]; exact hT0) (by rw [seg_0, flt_nil]; rfl) (by omega)
      clear inner ihn hT0 rdL rdR gW
      refine VW.iload (pc' := 89) d_Model_joins_87 rfl rfl ?_
      refine VW.aload_n (pc' := 90) d_Model_joins_89 rfl rfl ?_
      refine VW.gP (ci := 11) (T := T11) (N := 94) (k := 73) (k' := 73) (pc' := 93) d_Model_joins_90 rfl lk_Model_184 in11 rfl rfl rfl rfl (hM.k rfl) (hM.p (r := some 273) 73 rfl rfl) ?_
      refine VW.aload_n (pc' := 94) d_Model_joins_93 rfl rfl ?_
      refine VW.gI (ci := 11) (T := T11) (N := 94) (k := 71) (k' := 71) (pc' := 97) d_Model_joins_94 rfl lk_Model_434 in11 rfl rfl rfl rfl (hM.k rfl) (by first | exact g71 | exact g273 | exact g273a | exact g258 | exact g259 | exact vL | exact vR1 | rfl) ?_
      refine VW.iconst (pc' := 98) d_Model_joins_97 rfl (by decide) ?_
      refine VW.isub (pc' := 99) d_Model_joins_98 rfl (by omega) ?_
      refine VW.ild (pc' := 100) d_Model_joins_99 rfl (hM.k rfl) (by omega) (by omega) (by first | exact g71 | exact g273 | exact g273a | exact g258 | exact g259 | exact vL | exact vR1 | rfl) ?_
      refine VW.icmp_ge (tgt := 341) (pc' := 103) d_Model_joins_100 rfl rfl (fun c100 => ?_) (fun c100 => ?_)
      · exfalso; omega
      · refine VW.iconst (pc' := 104) d_Model_joins_103 rfl (by decide) ?_
        refine VW.istore (pc' := 106) d_Model_joins_104 rfl rfl ?_
        refine VW.iconst (pc' := 107) d_Model_joins_106 rfl (by decide) ?_
        refine VW.istore (pc' := 109) d_Model_joins_107 rfl rfl ?_
        refine VW.pick [0, 1, 2, 3, 4, 5, 6, 7, 8, 9, 10, 11, 12] ?_
        exact i0
  exact left
theorem sp_Model_joins {x r a b : Int} {wa wb w n1 n2 : Nat} (hM : MW K P) (hx : 0 ≤ x ∧ x < 252) (hr : I 100 71 = r + 2) (h0 : 0 ≤ r ∧ r < 10) (hw1 : I 274 r = wa) (hw2 : I 274 (r + 1) = wb) (hn1 : I 273 r = n1) (hn2 : I 273 (r + 1) = n2) (ha : I 272 r = a) (hb : I 272 (r + 1) = b) (hp : 0 ≤ a ∧ b = a + (wa : Int) * (n1 : Int) ∧ b + (wb : Int) * (n2 : Int) ≤ 600000) (hW : wa ≤ 10 ∧ wb ≤ 10 ∧ w ≤ 10) (hwe : (2 < I 257 x → w = wa) ∧ (I 257 x ≤ 2 → w = wa + wb)) (hN : n1 ≤ 512 ∧ n2 ≤ 512 ∧ (n1 : Int) * (n2 : Int) ≤ 512) (hB : 0 ≤ I 258 x ∧ I 258 x < wa) (hC : 0 ≤ I 259 x ∧ I 259 x < wb) (hJ : (joinL (I 257 x) (I 258 x) (I 259 x) wa wb (seg I 270 a wa n1) (seg I 270 b wb n2)).length ≤ 1000) : Sp m_Model_joins false (rmv 1 26) (exU K P J (.inl none) (fun I' => (I' 100 71 = r + 1 ∧ I' 273 r = (joinL (I 257 x) (I 258 x) (I 259 x) wa wb (seg I 270 a wa n1) (seg I 270 b wb n2)).length ∧ I' 274 r = w ∧ seg I' 270 a w (joinL (I 257 x) (I 258 x) (I 259 x) wa wb (seg I 270 a wa n1) (seg I 270 b wb n2)).length = (joinL (I 257 x) (I 258 x) (I 259 x) wa wb (seg I 270 a wa n1) (seg I 270 b wb n2))) ∧ ∀ (o : Nat) (q : Int), ¬ (o = 270 ∧ a ≤ q) → ¬ (o = 273 ∧ q = r) → ¬ (o = 274 ∧ q = r) → ¬ (o = 100 ∧ q = 71) → I' o q = I o q)) K P J I [vR (some 100), vI x] := by
  refine Sp.ofV (by decide) (Or.inr rfl) rfl ?_
  have q1 : (wa : Int) * (n1 : Int) ≤ 10 * 512 := mulUp (by omega) (by omega) (by omega) (by omega)
  have q2 : (wb : Int) * (n2 : Int) ≤ 10 * 512 := mulUp (by omega) (by omega) (by omega) (by omega)
  have q10 := mulNN (w := (wa : Int)) (k := (n1 : Int)) (by omega) (by omega)
  have q20 := mulNN (w := (wb : Int)) (k := (n2 : Int)) (by omega) (by omega)
  have qN0 := mulNN (w := (n1 : Int)) (k := (n2 : Int)) (by omega) (by omega)
  obtain ⟨m, hm⟩ : ∃ m, m = b + (wb : Int) * (n2 : Int) := ⟨_, rfl⟩
  have left := jn_left (J := J) hM hx hr h0 hw1 hw2 hn1 hn2 ha hb hp hW hwe hN hB hC hJ hm
  have tp : mTop I = m := by
    unfold mTop
    rw [if_neg (by omega), hr, show r + 2 - 1 = r + 1 by omega, hb, hn2, hw2, hm, Int.mul_comm]
  have tp1 := sp_Model_top (K := K) (P := P) (J := J) (I := I) hM (by omega) (fun _ => by rw [hr, show r + 2 - 1 = r + 1 by omega, hb, hn2, hw2, Int.mul_comm]; omega)
  rw [tp] at tp1
  have f1 : I 274 (r + 2 - 2) = wa := by rw [show r + 2 - 2 = r by omega]; exact hw1
  have f2 : I 274 (r + 2 - 1) = wb := by rw [show r + 2 - 1 = r + 1 by omega]; exact hw2
  have f3 : I 272 (r + 2 - 2) = a := by rw [show r + 2 - 2 = r by omega]; exact ha
  have f4 : I 272 (r + 2 - 1) = b := by rw [show r + 2 - 1 = r + 1 by omega]; exact hb
  have l0 := left n1 0 0 I (by omega) ⟨rfl, fun o q _ => rfl⟩ (by omega)
  have st : ∀ W : Int, W = w → VW m_Model_joins false (rmv 1 26) (exU K P J (.inl none) (fun I' => (I' 100 71 = r + 1 ∧ I' 273 r = (joinL (I 257 x) (I 258 x) (I 259 x) wa wb (seg I 270 a wa n1) (seg I 270 b wb n2)).length ∧ I' 274 r = w ∧ seg I' 270 a w (joinL (I 257 x) (I 258 x) (I 259 x) wa wb (seg I 270 a wa n1) (seg I 270 b wb n2)).length = (joinL (I 257 x) (I 258 x) (I 259 x) wa wb (seg I 270 a wa n1) (seg I 270 b wb n2))) ∧ ∀ (o : Nat) (q : Int), ¬ (o = 270 ∧ a ≤ q) → ¬ (o = 273 ∧ q = r) → ¬ (o = 274 ∧ q = r) → ¬ (o = 100 ∧ q = 71) → I' o q = I o q)) K P J I 0 0 87 [(0, vR (some 100)), (1, vI x), (2, vI (I 257 x)), (3, vI a), (4, vI b), (5, vI (wa : Int)), (6, vI (wb : Int)), (7, vI W), (8, vI m), (9, vI 0), (10, vI 0)] [] := fun W hW => by
    rw [hW]; exact l0
  have st2 := fun (z : I 257 x ≤ 2) => st ((wa : Int) + (wb : Int)) (by have := hwe.2 z; omega)
  have st1 := fun (z : ¬ I 257 x ≤ 2) => st (wa : Int) (by have := hwe.1 (by omega); omega)
  clear left hJ l0 st
  refine VW.aload_n (pc' := 1) d_Model_joins_0 rfl rfl ?_
  refine VW.gP (ci := 11) (T := T11) (N := 94) (k := 57) (k' := 57) (pc' := 4) d_Model_joins_1 rfl lk_Model_147 in11 rfl rfl rfl rfl (hM.k rfl) (hM.p (r := some 257) 57 rfl rfl) ?_
  refine VW.iload_n (pc' := 5) d_Model_joins_4 rfl rfl ?_
  refine VW.ild (pc' := 6) d_Model_joins_5 rfl (hM.k rfl) (by omega) (by omega) (by first | exact hr | exact f1 | exact f2 | exact f3 | exact f4 | rfl) ?_
  refine VW.istore_n (pc' := 7) d_Model_joins_6 rfl rfl ?_
  refine VW.aload_n (pc' := 8) d_Model_joins_7 rfl rfl ?_
  refine VW.gP (ci := 11) (T := T11) (N := 94) (k := 72) (k' := 72) (pc' := 11) d_Model_joins_8 rfl lk_Model_181 in11 rfl rfl rfl rfl (hM.k rfl) (hM.p (r := some 272) 72 rfl rfl) ?_
  refine VW.aload_n (pc' := 12) d_Model_joins_11 rfl rfl ?_
  refine VW.gI (ci := 11) (T := T11) (N := 94) (k := 71) (k' := 71) (pc' := 15) d_Model_joins_12 rfl lk_Model_434 in11 rfl rfl rfl rfl (hM.k rfl) (by first | exact hr | exact f1 | exact f2 | exact f3 | exact f4 | rfl) ?_
  refine VW.iconst (pc' := 16) d_Model_joins_15 rfl (by decide) ?_
  refine VW.isub (pc' := 17) d_Model_joins_16 rfl (by omega) ?_
  refine VW.ild (pc' := 18) d_Model_joins_17 rfl (hM.k rfl) (by omega) (by omega) (by first | exact hr | exact f1 | exact f2 | exact f3 | exact f4 | rfl) ?_
  refine VW.istore_n (pc' := 19) d_Model_joins_18 rfl rfl ?_
  refine VW.aload_n (pc' := 20) d_Model_joins_19 rfl rfl ?_
  refine VW.gP (ci := 11) (T := T11) (N := 94) (k := 72) (k' := 72) (pc' := 23) d_Model_joins_20 rfl lk_Model_181 in11 rfl rfl rfl rfl (hM.k rfl) (hM.p (r := some 272) 72 rfl rfl) ?_
  refine VW.aload_n (pc' := 24) d_Model_joins_23 rfl rfl ?_
  refine VW.gI (ci := 11) (T := T11) (N := 94) (k := 71) (k' := 71) (pc' := 27) d_Model_joins_24 rfl lk_Model_434 in11 rfl rfl rfl rfl (hM.k rfl) (by first | exact hr | exact f1 | exact f2 | exact f3 | exact f4 | rfl) ?_
  refine VW.iconst (pc' := 28) d_Model_joins_27 rfl (by decide) ?_
  refine VW.isub (pc' := 29) d_Model_joins_28 rfl (by omega) ?_
  refine VW.ild (pc' := 30) d_Model_joins_29 rfl (hM.k rfl) (by omega) (by omega) (by first | exact hr | exact f1 | exact f2 | exact f3 | exact f4 | rfl) ?_
  refine VW.istore (pc' := 32) d_Model_joins_30 rfl rfl ?_
  refine VW.aload_n (pc' := 33) d_Model_joins_32 rfl rfl ?_
  refine VW.gP (ci := 11) (T := T11) (N := 94) (k := 74) (k' := 74) (pc' := 36) d_Model_joins_33 rfl lk_Model_187 in11 rfl rfl rfl rfl (hM.k rfl) (hM.p (r := some 274) 74 rfl rfl) ?_
  refine VW.aload_n (pc' := 37) d_Model_joins_36 rfl rfl ?_
  refine VW.gI (ci := 11) (T := T11) (N := 94) (k := 71) (k' := 71) (pc' := 40) d_Model_joins_37 rfl lk_Model_434 in11 rfl rfl rfl rfl (hM.k rfl) (by first | exact hr | exact f1 | exact f2 | exact f3 | exact f4 | rfl) ?_
  refine VW.iconst (pc' := 41) d_Model_joins_40 rfl (by decide) ?_
  refine VW.isub (pc' := 42) d_Model_joins_41 rfl (by omega) ?_
  refine VW.ild (pc' := 43) d_Model_joins_42 rfl (hM.k rfl) (by omega) (by omega) (by first | exact hr | exact f1 | exact f2 | exact f3 | exact f4 | rfl) ?_
  refine VW.istore (pc' := 45) d_Model_joins_43 rfl rfl ?_
  refine VW.aload_n (pc' := 46) d_Model_joins_45 rfl rfl ?_
  refine VW.gP (ci := 11) (T := T11) (N := 94) (k := 74) (k' := 74) (pc' := 49) d_Model_joins_46 rfl lk_Model_187 in11 rfl rfl rfl rfl (hM.k rfl) (hM.p (r := some 274) 74 rfl rfl) ?_
  refine VW.aload_n (pc' := 50) d_Model_joins_49 rfl rfl ?_
  refine VW.gI (ci := 11) (T := T11) (N := 94) (k := 71) (k' := 71) (pc' := 53) d_Model_joins_50 rfl lk_Model_434 in11 rfl rfl rfl rfl (hM.k rfl) (by first | exact hr | exact f1 | exact f2 | exact f3 | exact f4 | rfl) ?_
  refine VW.iconst (pc' := 54) d_Model_joins_53 rfl (by decide) ?_
  refine VW.isub (pc' := 55) d_Model_joins_54 rfl (by omega) ?_
  refine VW.ild (pc' := 56) d_Model_joins_55 rfl (hM.k rfl) (by omega) (by omega) (by first | exact hr | exact f1 | exact f2 | exact f3 | exact f4 | rfl) ?_
  refine VW.istore (pc' := 58) d_Model_joins_56 rfl rfl ?_
  refine VW.iload_n (pc' := 59) d_Model_joins_58 rfl rfl ?_
  refine VW.iconst (pc' := 60) d_Model_joins_59 rfl (by decide) ?_
  refine VW.icmp_le (tgt := 68) (pc' := 63) d_Model_joins_60 rfl rfl (fun c60 => ?_) (fun c60 => ?_)
  · refine VW.iload (pc' := 70) d_Model_joins_68 rfl rfl ?_
    refine VW.iload (pc' := 72) d_Model_joins_70 rfl rfl ?_
    refine VW.iadd (pc' := 73) d_Model_joins_72 rfl (by omega) ?_
    refine VW.istore (pc' := 75) d_Model_joins_73 rfl rfl ?_
    refine VW.aload_n (pc' := 76) d_Model_joins_75 rfl rfl ?_
    refine VW.cV (ci := 11) (T := T11) (N := 94) (pc' := 79) d_Model_joins_76 rfl mv_Model_top lk_Model_437 rfl (hM.k rfl) rfl rfl rfl (Nat.le_refl _) (Nat.le_refl _) (tp1) rfl rfl ?_
    refine VW.istore (pc' := 81) d_Model_joins_79 rfl rfl ?_
    refine VW.iconst (pc' := 82) d_Model_joins_81 rfl (by decide) ?_
    refine VW.istore (pc' := 84) d_Model_joins_82 rfl rfl ?_
    refine VW.iconst (pc' := 85) d_Model_joins_84 rfl (by decide) ?_
    refine VW.istore (pc' := 87) d_Model_joins_85 rfl rfl ?_
    refine VW.pick [0, 1, 2, 3, 4, 5, 6, 7, 8, 9, 10] ?_
    first | exact st2 c60 | exact st1 (by omega)
  · refine VW.iload (pc' := 65) d_Model_joins_63 rfl rfl ?_
    refine VW.goto (pc' := 73) d_Model_joins_65 rfl ?_
    refine VW.istore (pc' := 75) d_Model_joins_73 rfl rfl ?_
    refine VW.aload_n (pc' := 76) d_Model_joins_75 rfl rfl ?_
    refine VW.cV (ci := 11) (T := T11) (N := 94) (pc' := 79) d_Model_joins_76 rfl mv_Model_top lk_Model_437 rfl (hM.k rfl) rfl rfl rfl (Nat.le_refl _) (Nat.le_refl _) (tp1) rfl rfl ?_
    refine VW.istore (pc' := 81) d_Model_joins_79 rfl rfl ?_
    refine VW.iconst (pc' := 82) d_Model_joins_81 rfl (by decide) ?_
    refine VW.istore (pc' := 84) d_Model_joins_82 rfl rfl ?_
    refine VW.iconst (pc' := 85) d_Model_joins_84 rfl (by decide) ?_
    refine VW.istore (pc' := 87) d_Model_joins_85 rfl rfl ?_
    refine VW.pick [0, 1, 2, 3, 4, 5, 6, 7, 8, 9, 10] ?_
    first | exact st2 c60 | exact st1 (by omega)
end
