/-! a block's columns and leaves: class and reference -/
section
variable {I S T U : IT} {x Q : Int} {n q top : Nat}
/-- what the reference knows of the block, as far as columns are looked up -/
def UB (S U : IT) (L : List (Int × Int)) : Prop := (∀ o z, ((256 ≤ o ∧ o ≤ 260) ∨ o = 291 ∨ o = 292) → U o z = S o z) ∧ holds U 285 286 L ∧ U 100 84 = L.length
theorem wd_scan (hs : SSch S) (hq : QV S x n) {k : Nat} (hk : k < n) (h : S 256 (x + k) = 0) : (0 ≤ S 257 (x + k) ∧ S 257 (x + k) < 6) ∧ wdN S x k ≤ 4 := by
  obtain ⟨⟨g1, g2⟩, -⟩ := (hq.2 k hk).2.1 h
  have s6 := hs.1.2
  have w := hs.2.1 _ g1 g2
  rw [wd_top (S := S) (x := x) (k := k) (ws1_0 h)]
  refine ⟨by omega, ?_⟩
  show (S 201 (S 257 (x + k))).toNat ≤ 4
  omega
theorem blk_cols (h : Qk I S T q x n) (hx : x = 12 * (Q + 1)) (hq0 : 10000 ≤ q) (ht : top < n) (n12 : n ≤ 12) (hpl : PlR I S) (hl : (blkL T x n top 0).length ≤ 3) (hB : UB S U (blkL T x n top 0)) :
    pl1 I q top n 1384 4 = (blkL T x n top 0).length ∧ (∀ (i : Nat) (k : Int × Int), (blkL T x n top 0)[i]? = some k → (pl1 I q top n 1390 i = (if S 256 (x + k.1) = 0 then S 291 (S 257 (x + k.1)) else 10) ∧ (0 ≤ pl1 I q top n 1390 i ∧ pl1 I q top n 1390 i ≤ 10)) ∧ pl1 I q top n 1391 i = if S 256 (x + k.1) = 0 then 1 else 0) ∧
    ∀ p : Int, 0 ≤ p → p < wdN S x top → ∃ (i : Nat) (k : Int × Int), (blkL T x n top 0)[i]? = some k ∧ (pl1 I q top n 1392 p = i ∧ mLeaf U p (blkL T x n top 0).length = i) ∧ (pl1 I q top n 1393 p = mVals U Q p ∧ 0 ≤ mVals U Q p) ∧ mVlOK U Q p := by
  obtain ⟨hs, hqv⟩ := h.1
  have X3 : rcI I q top (q + 3) = I (q + 3) := rcI_o (by omega) (by omega)
  have X4 : rcI I q top (q + 4) = I (q + 4) := rcI_o (by omega) (by omega)
  have X5 : rcI I q top (q + 5) = I (q + 5) := rcI_o (by omega) (by omega)
  have Xa : rcI I q top 1385 = I 1385 := rcI_o (by decide) (by decide)
  have Xb : rcI I q top 1386 = I 1386 := rcI_o (by decide) (by decide)
  have lv := leaves_all h hq0 ht n12 (P := fun j => rcI I q top 1387 j ≠ 0 ∧ ¬ quBlk (rcI I q top) q j) (fun j _ => Iff.rfl)
  have ct : Ct S x 0 (blkL T x n top 0) (0 + wdN S x top) := blk_ct h n top 0 ht ht
  have l0 : (lvR (fun j : Nat => rcI I q top 1387 j ≠ 0 ∧ ¬ quBlk (rcI I q top) q j) 0 n).length = (blkL T x n top 0).length := by
    rw [← lv, List.length_map]
  have dl := dl_list (S := S) (x := x) (n := n) (I := rcI I q top) (q := q) hq0 (P := fun j => rcI I q top 1387 j ≠ 0 ∧ ¬ quBlk (rcI I q top) q j) (fun j _ => Iff.rfl) (by rw [l0]; exact hl) (by rw [lv]; exact ct) (fun j hj => by rw [X5]; exact node_wid hqv h.2.1 hj) n (Nat.le_refl _)
  have e1q : pl1 I q top n = dlL (rcI I q top) q n := rfl
  rw [e1q]
  generalize dlL (rcI I q top) q n = D at *
  obtain ⟨d4, dl⟩ := dl
  have r2 := (reach_all h hq0 ht n12).2
  -- a leaf's node
  have nodeq : ∀ (i : Nat) (k : Int × Int), (blkL T x n top 0)[i]? = some k → ∃ j : Nat, k.1 = j ∧ j < n ∧ (lvR (fun j : Nat => rcI I q top 1387 j ≠ 0 ∧ ¬ quBlk (rcI I q top) q j) 0 n)[i]? = some j ∧ rcI I q top 1388 j = k.2 := fun i k hi => by
    have hi2 := hi
    rw [← lv, List.getElem?_map] at hi2
    cases hj : (lvR (fun j : Nat => rcI I q top 1387 j ≠ 0 ∧ ¬ quBlk (rcI I q top) q j) 0 n)[i]? with
    | none => rw [hj] at hi2; cases hi2
    | some j =>
      rw [hj] at hi2
      have e2 : ((j : Int), rcI I q top 1388 (j : Int)) = k := Option.some.inj hi2
      have jm := ((lvR_mem n j).mp (List.mem_of_getElem? hj)).1
      refine ⟨j, by rw [← e2], by omega, rfl, by rw [← e2]⟩
  have kindq : ∀ j : Nat, j < n → I (q + 3) j = S 256 (x + j) ∧ I (q + 4) ((j : Int) * 4 + 0) = S 257 (x + j) := fun j hj => ⟨(h.2.1.2 j hj).1.1, (h.2.1.2 j hj).1.2.1⟩
  refine ⟨by rw [d4, l0], fun i k hi => ?_, fun p p0 p1 => ?_⟩
  · obtain ⟨j, e1, jn, gj, e2⟩ := nodeq i k hi
    obtain ⟨a1, a2, -⟩ := dl i j gj
    obtain ⟨k3, k4⟩ := kindq j jn
    rw [e1, a1, a2]
    unfold dlR dlB dlT
    rw [X3, X4, Xa, k3, k4]
    refine ⟨?_, rfl⟩
    by_cases y : S 256 (x + j) = 0
    · obtain ⟨g1, g2⟩ := wd_scan hs hqv jn y
      obtain ⟨b1, b2⟩ := hpl.1 _ g1.1 g1.2
      rw [if_pos y, if_pos y, if_pos y, b1]
      exact ⟨rfl, by omega⟩
    · rw [if_neg y, if_neg y]
      exact ⟨rfl, by decide⟩
  · obtain ⟨i, k, gk, k0, k1⟩ := Ct_find (e := 0 + wdN S x top) ct p0 (by omega)
    obtain ⟨j, e1, jn, gj, e2⟩ := nodeq i k gk
    have ml := mLeaf_eq (U := U) (A := 0) (l := blkL T x n top 0) (fun i k hk => (hB.2.1 i k hk).2) ct gk k0 k1 (blkL T x n top 0).length (List.getElem?_eq_some_iff.mp gk).1 (Nat.le_refl _)
    rw [e1, Int.toNat_natCast] at k1
    obtain ⟨-, -, a3⟩ := dl i j gj
    obtain ⟨b1, b2⟩ := a3 (p - k.2) (by omega) (by omega)
    rw [e2, show k.2 + (p - k.2) = p by omega] at b1 b2
    obtain ⟨k3, k4⟩ := kindq j jn
    have u85 := (hB.2.1 i k gk).1
    have u86 := (hB.2.1 i k gk).2
    have n84 : (U 100 84).toNat = (blkL T x n top 0).length := by rw [hB.2.2]; exact Int.toNat_natCast _
    have wr := wd_rg hs hqv jn
    have n10 := wd_rg hs hqv ht
    have mv : mVals U Q p = if S 256 (x + j) = 0 then S 292 (4 * S 257 (x + j) + p - k.2) else 10 := by
      unfold mVals
      rw [n84, ml, u85, u86, e1, ← hx, hB.1 256 _ (by omega), hB.1 257 _ (by omega), hB.1 292 _ (by omega)]
    refine ⟨i, k, gk, ⟨b1, ml⟩, ?_, ?_⟩
    · rw [b2, mv]
      unfold dlV dlB dlT
      rw [X3, X4, Xb, k3, k4]
      by_cases y : S 256 (x + j) = 0
      · obtain ⟨g1, g2⟩ := wd_scan hs hqv jn y
        rw [if_pos y, if_pos y, if_pos y, if_neg (by decide), show S 257 (x + j) * 4 + (p - k.2) = 4 * S 257 (x + j) + p - k.2 by omega]
        have := hpl.2 (4 * S 257 (x + j) + p - k.2) (by omega) (by omega)
        exact ⟨this.1, this.2.1⟩
      · rw [if_neg y, if_neg y, if_neg y, if_pos rfl]
        exact ⟨rfl, by decide⟩
    · unfold mVlOK
      rw [n84, ml, u85, u86, e1, ← hx, hB.1 256 _ (by omega), hB.1 257 _ (by omega)]
      refine ⟨⟨p0, by omega⟩, ⟨by omega, by omega⟩, fun y => ?_⟩
      obtain ⟨g1, g2⟩ := wd_scan hs hqv jn y
      have ko := (Ct_ge ct).1 k (List.mem_of_getElem? gk)
      have kz : 0 ≤ k.2 := ko.1
      exact ⟨g1, by omega, by omega, by omega⟩
end
