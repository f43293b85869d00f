section
variable {K : KT} {P : PT} {J I : IT}
theorem mulStep {w k n : Int} (hw : 0 ≤ w) (hk : k < n) : w * k + w ≤ w * n := by
  have h := Int.mul_le_mul_of_nonneg_left (show k + 1 ≤ n by omega) hw
  rw [Int.mul_add, Int.mul_one] at h
  exact h
theorem mulLe {w k n : Int} (hw : 0 ≤ w) (hk : k ≤ n) : w * k ≤ w * n := Int.mul_le_mul_of_nonneg_left hk hw
theorem mulNN {w k : Int} (hw : 0 ≤ w) (hk : 0 ≤ k) : 0 ≤ w * k := Int.mul_nonneg hw hk
theorem mulUp {w k W n : Int} (hw : 0 ≤ w) (hk : 0 ≤ k) (h1 : w ≤ W) (h2 : k ≤ n) : w * k ≤ W * n := Int.le_trans (Int.mul_le_mul_of_nonneg_left h2 hw) (Int.mul_le_mul_of_nonneg_right h1 (by omega))
theorem cpyI_stepG {s a : Nat} {A B c : Int} (h0 : 0 ≤ c) (h : cpyI I s A a B c s (A + c) = I s (A + c)) : up2 (cpyI I s A a B c) a (B + c) (I s (A + c)) = cpyI I s A a B (c + 1) := by
  funext o k
  unfold up2 cpyI
  by_cases h1 : o = a ∧ k = B + c
  · obtain ⟨h1, h2⟩ := h1
    subst h1 h2
    rw [if_pos ⟨rfl, rfl⟩, if_pos ⟨rfl, by omega, by omega⟩, show B + c - B = c by omega]
  · rw [if_neg h1]
    by_cases h2 : o = a ∧ B ≤ k ∧ k < B + c
    · rw [if_pos h2, if_pos ⟨h2.1, h2.2.1, by omega⟩]
    · rw [if_neg h2, if_neg (fun z => h2 ⟨z.1, z.2.1, Classical.byContradiction (fun q => h1 ⟨z.1, by omega⟩)⟩)]
theorem cpyI_out {s a o : Nat} {A B n q : Int} (h : o ≠ a ∨ q < B ∨ B + n ≤ q) : cpyI I s A a B n o q = I o q := if_neg (by omega)
theorem cpyI_in {s a : Nat} {A B n q : Int} (h1 : B ≤ q) (h2 : q < B + n) : cpyI I s A a B n a q = I s (A + (q - B)) := if_pos ⟨rfl, h1, h2⟩
/-- a row that lies in an array, and rows that lie one behind the other -/
def rowAt (I : IT) (a : Nat) (b : Int) (w : Nat) : List Int := (List.range w).map (fun c : Nat => I a (b + (c : Int)))
def seg (I : IT) (a : Nat) (b : Int) (w n : Nat) : List (List Int) := (List.range n).map (fun k : Nat => rowAt I a (b + (w : Int) * (k : Int)) w)
def nth (r : List Int) (i : Int) : Int := r.getD i.toNat 0
theorem rowAt_len {a w : Nat} {b : Int} : (rowAt I a b w).length = w := by unfold rowAt; rw [List.length_map, List.length_range]
theorem seg_len {a w n : Nat} {b : Int} : (seg I a b w n).length = n := by unfold seg; rw [List.length_map, List.length_range]
theorem seg_0 {a w : Nat} {b : Int} : seg I a b w 0 = [] := rfl
theorem seg_succ {a w n : Nat} {b : Int} : seg I a b w (n + 1) = seg I a b w n ++ [rowAt I a (b + (w : Int) * (n : Int)) w] := by
  unfold seg
  rw [List.range_succ, List.map_append]; rfl
theorem rowAt_congr {S : IT} {a a' w : Nat} {b b' : Int} (h : ∀ c : Int, 0 ≤ c → c < w → S a' (b' + c) = I a (b + c)) : rowAt S a' b' w = rowAt I a b w := by
  unfold rowAt
  apply List.map_congr_left
  intro c hc
  have := List.mem_range.1 hc
  exact h c (by omega) (by omega)
theorem nth_rowAt {a w : Nat} {b i : Int} (h0 : 0 ≤ i) (h1 : i < w) : nth (rowAt I a b w) i = I a (b + i) := by
  unfold nth rowAt
  rw [List.getD_eq_getElem?_getD, List.getElem?_map, List.getElem?_range (by omega)]
  show I a (b + ((i.toNat : Nat) : Int)) = _
  rw [Int.toNat_of_nonneg h0]
theorem rowIn {w n k c : Int} (hw : 0 ≤ w) (hk : k < n) (hc : c < w) : w * k + c < w * n := by have := mulStep hw hk; omega
theorem seg_congr {S : IT} {a a' w n : Nat} {b b' : Int} (h : ∀ q : Int, 0 ≤ q → q < (w : Int) * (n : Int) → S a' (b' + q) = I a (b + q)) : seg S a' b' w n = seg I a b w n := by
  unfold seg
  apply List.map_congr_left
  intro k hk
  have hk := List.mem_range.1 hk
  apply rowAt_congr
  intro c h0 h1
  have e1 := rowIn (w := w) (n := n) (k := k) (c := c) (by omega) (by omega) h1
  have e2 := mulNN (w := (w : Int)) (k := (k : Int)) (by omega) (by omega)
  rw [show b' + (w : Int) * (k : Int) + c = b' + ((w : Int) * (k : Int) + c) by omega, show b + (w : Int) * (k : Int) + c = b + ((w : Int) * (k : Int) + c) by omega]
  exact h _ (by omega) (by omega)
theorem seg_get {a w n k : Nat} {b : Int} (h : k < n) : (seg I a b w n)[k]? = some (rowAt I a (b + (w : Int) * (k : Int)) w) := by
  unfold seg
  rw [List.getElem?_map, List.getElem?_range h]; rfl
theorem seg_take {a w n m : Nat} {b : Int} (h : m ≤ n) : (seg I a b w n).take m = seg I a b w m := by
  unfold seg
  rw [← List.map_take, List.take_range, Nat.min_eq_left h]
theorem rowAt_cpy {s a w : Nat} {A B : Int} : rowAt (cpyI I s A a B w) a B w = rowAt I s A w := by
  apply rowAt_congr
  intro c h0 h1
  rw [cpyI_in (by omega) (by omega)]
  congr 1; omega
/-- the rows for which p holds -/
noncomputable def flt (p : List Int → Prop) (L : List (List Int)) : List (List Int) := L.filter (fun r => decide (bI (p r) = 1))
theorem flt_nil {p : List Int → Prop} : flt p [] = [] := rfl
theorem flt_app {p : List Int → Prop} (A B : List (List Int)) : flt p (A ++ B) = flt p A ++ flt p B := List.filter_append A B
theorem flt_yes {p : List Int → Prop} {L : List (List Int)} {r : List Int} (h : p r) : flt p (L ++ [r]) = flt p L ++ [r] := by
  rw [flt_app]
  unfold flt
  rw [List.filter_cons_of_pos (by rw [bI1 h]; rfl)]; rfl
theorem flt_no {p : List Int → Prop} {L : List (List Int)} {r : List Int} (h : ¬ p r) : flt p (L ++ [r]) = flt p L := by
  rw [flt_app]
  unfold flt
  rw [List.filter_cons_of_neg (by rw [bI0 h]; decide)]
  exact List.append_nil _
theorem flt_len {p : List Int → Prop} {L : List (List Int)} : (flt p L).length ≤ L.length := List.length_filter_le _ _
theorem seg_w {a w n : Nat} {b : Int} : ∀ r ∈ seg I a b w n, r.length = w := by
  intro r hr
  unfold seg at hr
  obtain ⟨k, -, rfl⟩ := List.mem_map.1 hr
  exact rowAt_len
end
