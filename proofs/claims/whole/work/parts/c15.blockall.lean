/-! the block of a query: all of it -/
section
variable {I S T U : IT} {x : Int} {n q top : Nat}
theorem blkL_sub : ∀ (f : Nat) (k o : Int), ∀ e ∈ blkL T x f k o, e ∈ blkV T x f k o ∧ ¬ mInner T (x + e.1) ∧ ¬ isFlt (T 256 (x + e.1)) := by
  intro f
  induction f with
  | zero => intro k o e he; exact (List.not_mem_nil he).elim
  | succ f ihq =>
    intro k o e he
    by_cases hi : mInner T (x + k)
    · rw [(blk_i hi).1] at he
      rw [(blk_i hi).2.2]
      rcases List.mem_append.mp he with w | w
      · obtain ⟨a, b⟩ := ihq _ _ e w
        exact ⟨List.mem_cons_of_mem _ (List.mem_append_left _ a), b⟩
      · obtain ⟨a, b⟩ := ihq _ _ e w
        exact ⟨List.mem_cons_of_mem _ (List.mem_append_right _ a), b⟩
    · by_cases hf : isFlt (T 256 (x + k))
      · rw [(blk_f hi hf).1] at he
        rw [(blk_f hi hf).2.2]
        obtain ⟨a, b⟩ := ihq _ _ e he
        exact ⟨List.mem_cons_of_mem _ a, b⟩
      · rw [(blk_l hi hf).1] at he
        rw [(blk_l hi hf).2.2]
        rw [List.mem_singleton.mp he]
        exact ⟨List.mem_singleton.mpr rfl, hi, hf⟩
theorem reach_all (h : Qk I S T q x n) (hq0 : 10000 ≤ q) (ht : top < n) (n12 : n ≤ 12) :
    (∀ j : Nat, j < n → (rcI I q top 1387 j = 1 ∧ ((j : Int), rcI I q top 1388 j) ∈ blkV T x n top 0) ∨ (rcI I q top 1387 j = 0 ∧ ∀ v, ((j : Int), v) ∉ blkV T x n top 0)) ∧
    (∀ e ∈ blkV T x n top 0, (0 ≤ e.1 ∧ e.1 ≤ top) ∧ rcI I q top 1387 e.1 = 1 ∧ rcI I q top 1388 e.1 = e.2) := by
  have ar := sA_rg (S := S) (x := x) (k := top)
  have uo : ∀ o, o ≠ 1387 → o ≠ 1388 → up2 (up2 (filI I 1387 0 12 0) 1387 top 1) 1388 top 0 o = I o := fun o g1 g2 => funext (fun z => by rw [up2_o _ _ _ _ g2, up2_o _ _ _ _ g1, filI_fr g1])
  have u7 : ∀ z : Int, 0 ≤ z → z < 12 → up2 (up2 (filI I 1387 0 12 0) 1387 top 1) 1388 top 0 1387 z = if z = top then 1 else 0 := fun z z0 z1 => by
    rw [up2_o _ _ _ _ (by decide), up2_if]
    by_cases y : z = top
    · rw [if_pos y, if_pos y]
    · rw [if_neg y, if_neg y]
      exact if_pos ⟨rfl, z0, by omega⟩
  have u8 : up2 (up2 (filI I 1387 0 12 0) 1387 top 1) 1388 top 0 1388 top = 0 := up2_eq _ _ _ _
  have er : rcI I q top = rcL q (top + 1) (up2 (up2 (filI I 1387 0 12 0) 1387 top 1) 1388 top 0) := rfl
  rw [er]
  generalize up2 (up2 (filI I 1387 0 12 0) 1387 top 1) 1388 top 0 = V at *
  rw [← rcM_L, show top + 1 = (top + 1 - (sA S x top).toNat) + (sA S x top).toNat by omega, rcM_add, show top + 1 - (sA S x top).toNat + (sA S x top).toNat - (top + 1 - (sA S x top).toNat) = (sA S x top).toNat by omega, show top + 1 - (sA S x top).toNat + (sA S x top).toNat = top + 1 by omega]
  obtain ⟨p1, p2, p3⟩ := rc_sub h hq0 n top 0 V ht ht uo (by rw [u7 _ (by omega) (by omega), if_pos rfl]) u8 (fun z z0 z1 => by rw [u7 _ (by omega) (by omega), if_neg (by omega)])
  generalize rcM q (top + 1 - (sA S x top).toNat) (top + 1) V = X at *
  have idq : ∀ (m hi : Nat), (hi : Int) ≤ sA S x top → m ≤ hi → rcM q m hi X = X := by
    intro m
    induction m with
    | zero => exact fun _ _ _ => rfl
    | succ m ihm =>
      intro hi y1 y2
      have z0 : rcP q X (hi - 1) = X := if_neg (fun z => z.1 (by
        rw [(p1 _ (by omega)).1, u7 _ (by omega) (by omega), if_neg (by omega)]))
      show rcM q m (hi - 1) (rcP q X (hi - 1)) = X
      rw [z0]
      exact ihm (hi - 1) (by omega) (by omega)
  rw [idq _ _ (by omega) (Nat.le_refl _)]
  refine ⟨fun j hj => ?_, fun e he => ?_⟩
  · by_cases inr : sA S x top ≤ (j : Int) ∧ (j : Int) ≤ top
    · exact p2 j inr.1 inr.2
    · refine Or.inr ⟨?_, fun v hv => ?_⟩
      · rw [(p1 _ (by omega)).1, u7 _ (by omega) (by omega), if_neg (by omega)]
      · have : sA S x top ≤ (j : Int) ∧ (j : Int) ≤ top := (p3 _ hv).1
        omega
  · obtain ⟨a, b⟩ := p3 e he
    exact ⟨⟨by omega, a.2⟩, b⟩
theorem leaves_all (h : Qk I S T q x n) (hq0 : 10000 ≤ q) (ht : top < n) (n12 : n ≤ 12) {P : Nat → Prop} (hP : ∀ j : Nat, j < n → (P j ↔ rcI I q top 1387 j ≠ 0 ∧ ¬ quBlk (rcI I q top) q j)) :
    (lvR P 0 n).map (fun j : Nat => ((j : Int), rcI I q top 1388 (j : Int))) = blkL T x n top 0 := by
  obtain ⟨r1, r2⟩ := reach_all h hq0 ht n12
  have ar := sA_rg (S := S) (x := x) (k := top)
  have bq : ∀ j : Nat, quBlk (rcI I q top) q j ↔ quBlk I q j := fun j => quBlk_of (rcI_o (by omega) (by omega)) (rcI_o (by omega) (by omega))
  have mk : ∀ j : Nat, j < n → (rcI I q top 1387 j ≠ 0 ↔ ∃ v, ((j : Int), v) ∈ blkV T x n top 0) := fun j hj => by
    rcases r1 j hj with ⟨a, b⟩ | ⟨a, b⟩
    · exact ⟨fun _ => ⟨_, b⟩, fun _ => by omega⟩
    · exact ⟨fun z => (z a).elim, fun ⟨v, hv⟩ => (b v hv).elim⟩
  have asc := blk_asc h (P := P) (M := fun j => rcI I q top 1387 j ≠ 0) (fun j hj => by
    rw [hP j hj, bq]
    obtain ⟨i1, i2⟩ := h.inn hj
    unfold quBlk
    rw [i1, i2]
    exact ⟨fun z => ⟨z.1, fun w => z.2 (Or.inl w), fun w => z.2 (Or.inr w)⟩, fun z => ⟨z.1, fun w => w.elim z.2.1 z.2.2⟩⟩) n top 0 ht ht (fun j _ j1 => mk j (by omega))
  have none1 : lvR P 0 (sA S x top).toNat = [] := lvR_none _ (fun j _ j1 hj => by
    obtain ⟨v, hv⟩ := (mk j (by omega)).mp ((hP j (by omega)).mp hj).1
    have : sA S x top ≤ (j : Int) := (blkV_rg h n top 0 ht ht _ hv).1
    omega)
  have none2 : lvR P (top + 1) (n - (top + 1)) = [] := lvR_none _ (fun j j0 j1 hj => by
    obtain ⟨v, hv⟩ := (mk j (by omega)).mp ((hP j (by omega)).mp hj).1
    have : (j : Int) ≤ top := (blkV_rg h n top 0 ht ht _ hv).2
    omega)
  have whole : lvR P 0 n = lvR P (sA S x top).toNat (top + 1 - (sA S x top).toNat) := by
    have e1q : n = (sA S x top).toNat + ((top + 1 - (sA S x top).toNat) + (n - (top + 1))) := by omega
    rw [e1q, lvR_add, none1, List.nil_append, Nat.zero_add, lvR_add, show (sA S x top).toNat + (top + 1 - (sA S x top).toNat) = top + 1 by omega]
    rw [none2, List.append_nil]
  rw [whole]
  have e2q : (lvR P (sA S x top).toNat (top + 1 - (sA S x top).toNat)).map (fun j : Nat => ((j : Int), rcI I q top 1388 (j : Int))) = ((lvR P (sA S x top).toNat (top + 1 - (sA S x top).toNat)).map (fun j : Nat => (j : Int))).map (fun z : Int => (z, rcI I q top 1388 z)) := by
    rw [List.map_map]; rfl
  rw [e2q, asc, List.map_map]
  have all : ∀ e ∈ blkL T x n top 0, ((fun z : Int => (z, rcI I q top 1388 z)) ∘ Prod.fst) e = e := fun e he => by
    have := (r2 e (blkL_sub n top 0 e he).1).2.2
    show (e.1, rcI I q top 1388 e.1) = e
    rw [this]
  rw [List.map_congr_left all, List.map_id']
/-- the leaf that has a column -/
theorem Ct_find {e p : Int} : ∀ {l : List (Int × Int)} {o : Int}, Ct S x o l e → o ≤ p → p < e → ∃ (i : Nat) (k : Int × Int), l[i]? = some k ∧ k.2 ≤ p ∧ p < k.2 + wdN S x k.1.toNat := by
  intro l
  induction l with
  | nil => intro o h h0 h1; have : o = e := h; omega
  | cons a l ihq =>
    intro o h h0 h1
    have e2 : a.2 = o := h.1
    by_cases y : p < o + wdN S x a.1.toNat
    · exact ⟨0, a, rfl, by omega, by omega⟩
    · obtain ⟨ix, kx, g1, g2⟩ := ihq h.2 (by omega) h1
      exact ⟨ix + 1, kx, g1, g2⟩
theorem Ct_idx {e : Int} : ∀ {l : List (Int × Int)} {o : Int}, Ct S x o l e → ∀ (i j : Nat) (a b : Int × Int), i < j → l[i]? = some a → l[j]? = some b → a.2 + wdN S x a.1.toNat ≤ b.2 := by
  intro l
  induction l with
  | nil => intro o h i j a b _ ha; rw [List.getElem?_nil] at ha; cases ha
  | cons p l ihq =>
    intro o h i j a b hij ha hb
    cases j with
    | zero => omega
    | succ j =>
      rw [List.getElem?_cons_succ] at hb
      cases i with
      | zero =>
        rw [List.getElem?_cons_zero] at ha
        have := (Ct_ge h.2).1 b (List.mem_of_getElem? hb)
        have e2 : p.2 = o := h.1
        rw [← Option.some.inj ha]; omega
      | succ i =>
        rw [List.getElem?_cons_succ] at ha
        exact ihq h.2 i j a b (by omega) ha hb
/-- the reference's leaf of a column -/
theorem mLeaf_eq {A : Nat} {l : List (Int × Int)} {e p : Int} (hl : ∀ (i : Nat) k, l[i]? = some k → U 286 i = k.2) (ct : Ct S x A l e) {i : Nat} {k : Int × Int} (hi : l[i]? = some k) (h0 : k.2 ≤ p) (h1 : p < k.2 + wdN S x k.1.toNat) : ∀ m : Nat, i < m → m ≤ l.length → mLeaf U p m = i := by
  intro m
  induction m with
  | zero => intro hm; omega
  | succ m ihq =>
    intro hm hml
    have lm : m < l.length := by omega
    have gm := List.getElem?_eq_getElem lm
    show (if U 286 m ≤ p then (m : Int) else mLeaf U p m) = i
    by_cases em : m = i
    · rw [em, hl i k hi, if_pos h0]
    · have := Ct_idx ct i m k _ (by omega) hi gm
      rw [hl m _ gm, if_neg (by omega)]
      exact ihq (by omega) (by omega)
end
