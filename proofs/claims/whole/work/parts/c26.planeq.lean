/-! RowForge.prepare: class and reference -/
section
variable {I S T U1 J : IT} {Q : Int} {n q top nl m : Nat}
theorem rc_fr {o : Nat} (h : o ≠ 1384) (h2 : ¬ (1387 ≤ o ∧ o ≤ 1397)) (h3 : o ≠ q) (h4 : o ≠ q + 13) : plI I q top n nl m o = I o := by
  have a1 : plI I q top n nl m o = pl4 I q top n nl m o := funext (fun z => up2_o _ _ _ _ h)
  have a2 : pl4 I q top n nl m o = pl3 I q top n o := chZ_o h3 h4 (by omega) _
  have a3 : pl3 I q top n o = pl2 I q top n o := gjL_o h (by omega) (by omega) (top + 1)
  rw [a1, a2, a3, pl2_o h (by omega) (by omega) (by omega) (by omega)]
  exact rcI_o (by omega) (by omega)
theorem plan_eq (h : Qk I S T q (12 * (Q + 1)) n) (hn1 : 1 ≤ n) (hq0 : 10000 ≤ q) (hpl : PlR I S) (h292 : ∀ k, 0 ≤ S 292 k ∧ S 292 k ≤ 8) (hJ : ∀ k, 0 ≤ J 287 k ∧ J 287 k ≤ 10) (etop : tpR I q (n - 1) = top) (hk : PlOK I q top n nl m) {J2 U2 U3 : IT}
    (hB : BJ J T J2 U2 (12 * (Q + 1)) (blkL T (12 * (Q + 1)) n (mFirstJ T Q n) 0) (blkJ T (12 * (Q + 1)) n (mFirstJ T Q n) 0) (blkV T (12 * (Q + 1)) n (mFirstJ T Q n) 0) (blkL T (12 * (Q + 1)) n (mFirstJ T Q n) 0) (blkJ T (12 * (Q + 1)) n (mFirstJ T Q n) 0) (blkV T (12 * (Q + 1)) n (mFirstJ T Q n) 0) []) (h3 : ∀ (o : Nat) (z : Int), o ≠ 283 → U3 o z = U2 o z) :
    ((blkL T (12 * (Q + 1)) n (mFirstJ T Q n) 0).length = nl ∧ (blkJ T (12 * (Q + 1)) n (mFirstJ T Q n) 0).length = m ∧ (nl = 2 ∨ nl = 3)) ∧
    (plI I q top n nl m q 9 = 1 ∧ plI I q top n nl m q 10 = (bsE ((blkF U2 (12 * (Q + 1)) n (mFirstJ T Q n) 0).foldl (psF U2 Q) J2) U3 Q nl m).1 ∧ plI I q top n nl m q 11 = nl ∧ ∀ k : Nat, k < nl → plI I q top n nl m (q + 13) k = digO (bsE ((blkF U2 (12 * (Q + 1)) n (mFirstJ T Q n) 0).foldl (psF U2 Q) J2) U3 Q nl m).2 k) ∧
    (∀ k, k ≠ 9 → k ≠ 10 → k ≠ 11 → plI I q top n nl m q k = I q k) ∧ (plI I q top n nl m 1384 13 = I 1384 13 + 1) ∧ (∀ k, 0 ≤ ((blkF U2 (12 * (Q + 1)) n (mFirstJ T Q n) 0).foldl (psF U2 Q) J2) 287 k ∧ ((blkF U2 (12 * (Q + 1)) n (mFirstJ T Q n) 0).foldl (psF U2 Q) J2) 287 k ≤ 10) ∧ ∀ o, o ≠ 287 → ((blkF U2 (12 * (Q + 1)) n (mFirstJ T Q n) 0).foldl (psF U2 Q) J2) o = J o := by
  obtain ⟨⟨hs, hqv⟩, hR, hN, hT⟩ := h
  have h : Qk I S T q (12 * (Q + 1)) n := ⟨⟨hs, hqv⟩, hR, hN, hT⟩
  have n12 := hqv.1
  obtain ⟨te, tx⟩ := top_eq h hn1
  obtain ⟨top', etop', ht, hi⟩ := tx (by rw [etop]; omega)
  have et : top' = top := by omega
  subst et
  have em : mFirstJ T Q n = (top' : Int) := te.trans etop
  rw [em] at hB ⊢
  obtain ⟨ub, hJJ, n88, u92, j2, bo, rows, jo, b8⟩ := block_ok h hq0 ht hi hpl h292 hJ hB
  obtain ⟨⟨l1, l2⟩, lj, l22⟩ := blk_len h n top' 0 ht ht
  have w3 := (wt_rg hs hqv ht).2
  have l2' := l22 hi
  have lL : (blkL T (12 * (Q + 1)) n top' 0).length ≤ 3 := by omega
  have ub3 : UB S U3 (blkL T (12 * (Q + 1)) n top' 0) := ⟨fun o z ho => (h3 o z (by omega)).trans (ub.1 o z ho), fun i e he => ⟨(h3 285 _ (by decide)).trans (ub.2.1 i e he).1, (h3 286 _ (by decide)).trans (ub.2.1 i e he).2⟩, (h3 100 84 (by decide)).trans ub.2.2⟩
  obtain ⟨c4, crow, cols⟩ := blk_cols h rfl hq0 ht n12 hpl lL ub3
  obtain ⟨j9, jat⟩ := clJ_at h hq0 ht n12
  have pm := clJ_perm h hq0 ht n12
  obtain ⟨-, -, -, -, -, ⟨k4, -, -⟩, ⟨k9, -⟩, -⟩ := hk
  have p34 : pl3 I q top' n 1384 4 = pl1 I q top' n 1384 4 := by
    show gjL (pl2 I q top' n) q (top' + 1) 1384 4 = _
    rw [gjL_k (by decide), show pl2 I q top' n 1384 = pl1 I q top' n 1384 from afL_o (by decide) top']
  have enl : (blkL T (12 * (Q + 1)) n top' 0).length = nl := by
    rw [p34, c4] at k4; omega
  have enj : (blkJ T (12 * (Q + 1)) n top' 0).length = m := by
    rw [j9, pm.length_eq] at k9; omega
  rw [(bo n).2.2.1]
  have rows3 : ∀ z : Int, 0 ≤ z → z < nl → pl3 I q top' n 1390 z = ((blkF T (12 * (Q + 1)) n top' 0).foldl (psF U2 Q) J2) 287 z := fun z z0 z1 => by
    have p3 : pl3 I q top' n 1390 = pl2 I q top' n 1390 := gjL_o (by decide) (by decide) (by decide) (top' + 1)
    rw [p3]
    have gi := List.getElem?_eq_getElem (show z.toNat < (blkL T (12 * (Q + 1)) n top' 0).length by omega)
    have r1 := (crow z.toNat _ gi).1.1
    have r2 := rows z.toNat _ gi
    rw [show ((z.toNat : Nat) : Int) = z by omega] at r1 r2
    exact passes_eq h rfl hq0 ht n12 hpl hi lL ub (r1.trans r2.symm)
  have cok : CoOK ((blkF T (12 * (Q + 1)) n top' 0).foldl (psF U2 Q) J2) U3 Q nl m := by
    refine ⟨⟨by rw [ub3.2.2, enl], by omega, by omega⟩, ⟨by rw [h3 100 88 (by decide), n88, enj], by omega⟩, ps_fold_rg u92 _ _ j2, fun k => by rw [h3 292 k (by decide)]; exact u92 k, fun j j0 j1 => ?_⟩
    obtain ⟨e, gj⟩ : ∃ e, (blkJ T (12 * (Q + 1)) n top' 0)[j.toNat]? = some e := ⟨_, List.getElem?_eq_getElem (show j.toNat < (blkJ T (12 * (Q + 1)) n top' 0).length by omega)⟩
    obtain ⟨d1, d2⟩ := hJJ j.toNat e gj
    rw [show ((j.toNat : Nat) : Int) = j by omega] at d1 d2
    rw [h3 289 j (by decide), h3 290 j (by decide), d1, d2]
    have mem := List.mem_of_getElem? gj
    rw [blkI_J] at mem
    obtain ⟨d, hd, ed⟩ := List.mem_map.mp mem
    have cl := jn_col h ht d hd
    rw [ed] at cl
    obtain ⟨i, kk, -, -, -, vo⟩ := cols e.1 cl.1.1 cl.1.2
    obtain ⟨i', kk', -, -, -, vo'⟩ := cols e.2 cl.2.1 cl.2.2
    exact ⟨vo, vo'⟩
  have jn : ∀ V : IT, (∀ o, o = 1392 ∨ o = 1393 ∨ o = 1395 ∨ o = 1396 → V o = pl3 I q top' n o) → ∀ t leaf r, ctJ V t leaf r m = mCj U3 Q nl t leaf r m := fun V hV t leaf r => by
    have := joins_eq (V := V) (t := t) (leaf := leaf) (r := r) h rfl hq0 ht n12 hpl lL ub3 (fun i e he => ⟨(h3 289 _ (by decide)).trans (hJJ i e he).1, (h3 290 _ (by decide)).trans (hJJ i e he).2⟩) hV
    rw [enl, enj] at this
    exact this
  obtain ⟨fnd, f9⟩ := found_eq (D := pl3 I q top' n) (U := U3) (Q := Q) (m := m) (n := nl) hq0 (by omega) cok rows3 jn
  have e4 : pl4 I q top' n nl m = chZ (pl3 I q top' n) q nl m (nl ^ nl) := rfl
  rw [← e4] at fnd f9
  have ei : ∀ o, o ≠ 1384 → plI I q top' n nl m o = pl4 I q top' n nl m o := fun o ho => funext (fun z => up2_o _ _ _ _ ho)
  obtain ⟨g1, g2, g3⟩ := fnd
  refine ⟨⟨enl, enj, by omega⟩, ?_, fun k a b c => ?_, ?_, ps_fold_rg u92 _ _ j2, fun o ho => funext (fun z => (ps_fold_o _ _ o z ho).trans (congrFun (jo o ho) z))⟩
  · rw [ei q (by omega), ei (q + 13) (by omega)]
    rcases g3 with ⟨a, -⟩ | ⟨a, -, b, c, d⟩
    · omega
    · exact ⟨a, b, c, d⟩
  · have p3q : pl3 I q top' n q = I q := (gjL_o (by omega) (by omega) (by omega) (top' + 1)).trans ((pl2_o (by omega) (by omega) (by omega) (by omega) (by omega)).trans (rcI_o (by omega) (by omega)))
    rw [ei q (by omega), g2 k a b c, p3q]
  · show up2 (pl4 I q top' n nl m) 1384 13 (pl4 I q top' n nl m 1384 13 + 1) 1384 13 = _
    rw [up2_eq, pl4_13 hq0]
/-- plans: class and reference -/
def PnR (I S : IT) (nq : Nat) : Prop := (∀ j : Nat, j < nq → ((I (qX j) 9 = 0 ∨ I (qX j) 9 = 1) ∧ (I (qX j) 9 = 0 ↔ S 263 j = 0)) ∧ (I (qX j) 9 ≠ 0 → I (qX j) 10 = S 264 j ∧ I (qX j) 11 = S 265 j ∧ (0 ≤ S 265 j ∧ S 265 j ≤ 3) ∧ ∀ k : Int, 0 ≤ k → k < S 265 j → I (qX j + 13) k = S 266 (4 * j + k))) ∧ I 1384 13 = S 100 67
theorem prE_at {JC U3 : IT} : prE JC U3 Q nl m 263 = up2 U3 263 Q 1 263 ∧ prE JC U3 Q nl m 264 = up2 U3 264 Q (bsE JC U3 Q nl m).1 264 ∧ prE JC U3 Q nl m 265 = up2 U3 265 Q nl 265 ∧ prE JC U3 Q nl m 100 67 = U3 100 67 + 1 ∧ (∀ o z, o ≠ 263 → o ≠ 264 → o ≠ 265 → o ≠ 266 → ¬ (o = 100 ∧ z = 67) → prE JC U3 Q nl m o z = U3 o z) ∧ (∀ z, prE JC U3 Q nl m 266 z = mPl U3 Q (bsE JC U3 Q nl m).2 nl 266 z) := by
  unfold prE
  refine ⟨funext (fun z => ?_), funext (fun z => ?_), funext (fun z => ?_), ?_, fun o z a b c d e => ?_, fun z => ?_⟩
  · rw [up2_o _ _ _ _ (by decide), mPl_o _ _ _ (by decide), up2_o _ _ _ _ (by decide), up2_o _ _ _ _ (by decide)]
  · rw [up2_o _ _ _ _ (by decide), mPl_o _ _ _ (by decide), up2_o _ _ _ _ (by decide), up2_if, up2_if, up2_o _ _ _ _ (by decide)]
  · rw [up2_o _ _ _ _ (by decide), mPl_o _ _ _ (by decide), up2_if, up2_if, up2_o _ _ _ _ (by decide), up2_o _ _ _ _ (by decide)]
  · rw [up2_eq]
  · have e1 : ∀ (X : IT) v, up2 X 100 67 v o z = X o z := fun X v => if_neg e
    rw [e1, mPl_o _ _ _ d, up2_o _ _ _ _ c, up2_o _ _ _ _ b, up2_o _ _ _ _ a]
  · rw [up2_o _ _ _ _ (by decide)]
    have : ∀ (X Y : IT) (f : Int) (k : Nat), X 266 = Y 266 → mPl X Q f k 266 = mPl Y Q f k 266 := fun X Y f k e => by
      induction k with
      | zero => exact e
      | succ k ihq =>
        funext w
        show up2 (mPl X Q f k) 266 (4 * Q + k) (digO f k) 266 w = up2 (mPl Y Q f k) 266 (4 * Q + k) (digO f k) 266 w
        rw [up2_if, up2_if, ihq]
    exact congrFun (this _ _ _ _ (funext (fun w => by rw [up2_o _ _ _ _ (by decide), up2_o _ _ _ _ (by decide), up2_o _ _ _ _ (by decide)]))) z
theorem mPl_at {X : IT} {f : Int} : ∀ (k : Nat) (z : Int), (∀ i : Nat, i < k → z ≠ 4 * Q + i) ∧ mPl X Q f k 266 z = X 266 z ∨ ∃ i : Nat, i < k ∧ z = 4 * Q + i ∧ mPl X Q f k 266 z = digO f i := by
  intro k
  induction k with
  | zero => exact fun z => Or.inl ⟨fun i hi => absurd hi (Nat.not_lt_zero i), rfl⟩
  | succ k ihq =>
    intro z
    have e1 : mPl X Q f (k + 1) 266 z = if z = 4 * Q + k then digO f k else mPl X Q f k 266 z := up2_if _ _ _ _ _
    by_cases y : z = 4 * Q + k
    · exact Or.inr ⟨k, Nat.lt_succ_self k, y, by rw [e1, if_pos y]⟩
    · rw [e1, if_neg y]
      rcases ihq z with ⟨a, b⟩ | ⟨i, a, b, c⟩
      · exact Or.inl ⟨fun i hi => by
          by_cases w : i = k
          · rw [w]; exact y
          · exact a i (by omega), b⟩
      · exact Or.inr ⟨i, by omega, b, c⟩
/-- the plans behind a plan that was made -/
theorem PnR.plan {I' JC U3 : IT} {nq y : Nat} (h : PnR I S nq) (hnq : nq ≤ 20) (hy : y < nq) (hU : ∀ o z, ((263 ≤ o ∧ o ≤ 266) ∨ (o = 100 ∧ z = 67)) → U3 o z = S o z) (hnl : nl = 2 ∨ nl = 3)
    (h9 : I' (qX y) 9 = 1 ∧ I' (qX y) 10 = (bsE JC U3 y nl m).1 ∧ I' (qX y) 11 = nl ∧ ∀ k : Nat, k < nl → I' (qX y + 13) k = digO (bsE JC U3 y nl m).2 k) (hI : ∀ j : Nat, j < nq → j ≠ y → I' (qX j) = I (qX j) ∧ I' (qX j + 13) = I (qX j + 13)) (h13 : I' 1384 13 = I 1384 13 + 1) : PnR I' (prE JC U3 y nl m) nq := by
  obtain ⟨e3, e4, e5, e67, eo, e6⟩ := prE_at (JC := JC) (U3 := U3) (Q := (y : Int)) (nl := nl) (m := m)
  refine ⟨fun j hj => ?_, by rw [h13, e67, hU 100 67 (Or.inr ⟨rfl, rfl⟩), h.2]⟩
  rw [e3, e4, e5]
  by_cases ej : j = y
  · subst ej
    rw [up2_eq, up2_eq, up2_eq, h9.1, h9.2.1, h9.2.2.1]
    refine ⟨⟨Or.inr rfl, ⟨fun z => absurd z (by decide), fun z => absurd z (by decide)⟩⟩, fun _ => ⟨rfl, rfl, ⟨by omega, by omega⟩, fun k k0 k1 => ?_⟩⟩
    rw [e6]
    rcases mPl_at (X := U3) (Q := (j : Int)) (f := (bsE JC U3 j nl m).2) nl (4 * (j : Int) + k) with ⟨a, -⟩ | ⟨i, a, b, c⟩
    · exact absurd rfl (by have := a k.toNat (by omega); rw [show ((k.toNat : Nat) : Int) = k by omega] at this; exact this)
    · rw [c, ← h9.2.2.2 i a, show k = (i : Int) by omega]
  · obtain ⟨g1, g2⟩ := h.1 j hj
    obtain ⟨i1, i2⟩ := hI j hj ej
    have ne : (j : Int) ≠ (y : Int) := by omega
    rw [up2_k _ _ _ _ ne, up2_k _ _ _ _ ne, up2_k _ _ _ _ ne, hU 263 j (by omega), hU 264 j (by omega), hU 265 j (by omega), i1, i2]
    refine ⟨g1, fun z => ?_⟩
    obtain ⟨a1, a2, a3, a4⟩ := g2 z
    refine ⟨a1, a2, a3, fun k k0 k1 => ?_⟩
    rw [e6]
    rcases mPl_at (X := U3) (Q := (y : Int)) (f := (bsE JC U3 y nl m).2) nl (4 * (j : Int) + k) with ⟨-, b⟩ | ⟨i, a, b, -⟩
    · rw [b, hU 266 _ (by omega)]; exact a4 k k0 k1
    · omega
end
