/-! the class's planner may be asked for each query -/
section
variable {I S T U : IT} {x Q : Int} {n q top : Nat}
theorem StN_mk {T : IT} {N : NST} (h3 : ∀ i : Nat, T 283 i = ((N.reverse)[i]?.getD (0, 0)).1) (h1 : ∀ e ∈ N, T 281 e.1 = e.2) : ∀ (pre st : NST), N = pre ++ st → StN T st := by
  intro pre st
  induction st generalizing pre with
  | nil => exact fun _ => trivial
  | cons e st ihq =>
    intro eq
    refine ⟨⟨?_, h1 e (by rw [eq]; exact List.mem_append_right _ List.mem_cons_self)⟩, ihq (pre ++ [e]) (by rw [eq, List.append_assoc]; rfl)⟩
    rw [h3, eq, List.reverse_append, List.reverse_cons]
    rw [List.getElem?_append_left (by rw [List.length_append, List.length_reverse]; show st.length < st.length + 1; omega), List.getElem?_append_right (by rw [List.length_reverse]; exact Nat.le_refl _), List.length_reverse, Nat.sub_self]
    rfl
theorem NI_ex (hs : SSch S) (hq : QV S x n) : ∃ T : IT, NI S T x n := by
  refine ⟨fun o z => if o = 279 then nLft (S 256 (x + z)) (nsW S x z.toNat) else if o = 280 then nRgt (S 256 (x + z)) (nsW S x z.toNat) else if o = 281 then nWid S (x + z) (nsW S x z.toNat) else if o = 283 then ((nsW S x n).reverse[z.toNat]?.getD (0, 0)).1 else S o z, fun o z h1 h2 h3 h4 => ?_, StN_mk (N := nsW S x n) (fun i => ?_) (fun e he => ?_) [] (nsW S x n) rfl, fun j hj => ⟨?_, ?_, ?_⟩⟩
  · show (if o = 279 then _ else _) = S o z
    rw [if_neg h1, if_neg h2, if_neg h3, if_neg h4]
  · show (if (283 : Nat) = 279 then _ else _) = _
    rw [if_neg (by decide), if_neg (by decide), if_neg (by decide), if_pos rfl, Int.toNat_natCast]
  · obtain ⟨i, hi⟩ := List.getElem?_of_mem he
    obtain ⟨lenq, atq⟩ := nsW_eq hs hq n (Nat.le_refl _)
    have il : i < (rtT S x n).length := by
      rw [← lenq]; exact (List.getElem?_eq_some_iff.mp hi).1
    have g0 := List.getElem?_eq_getElem il
    have g1 := atq i _ g0
    rw [hi] at g1
    have rg := (rtT_tail n i _ g0).1
    generalize (rtT S x n)[i] = r at *
    have ee := Option.some.inj g1
    have g2 := (nsW_eq hs hq (r.toNat + 1) (by omega)).2 0 (r.toNat : Int) rfl
    rw [Int.toNat_natCast] at g2
    have g3 : (nsW S x (r.toNat + 1))[0]? = some ((r.toNat : Int), nWid S (x + (r.toNat : Int)) (nsW S x r.toNat)) := rfl
    rw [g3] at g2
    have g4 := (Prod.mk.inj (Option.some.inj g2)).2
    rw [ee]
    show (if (281 : Nat) = 279 then _ else _) = (wdN S x r.toNat : Int)
    rw [if_neg (by decide), if_neg (by decide), if_pos rfl, ← g4, show ((r.toNat : Nat) : Int) = r by omega]
  · show (if (279 : Nat) = 279 then _ else _) = _
    rw [if_pos rfl, Int.toNat_natCast]
  · show (if (280 : Nat) = 279 then _ else _) = _
    rw [if_neg (by decide), if_pos rfl, Int.toNat_natCast]
  · show (if (281 : Nat) = 279 then _ else _) = _
    rw [if_neg (by decide), if_neg (by decide), if_pos rfl, Int.toNat_natCast]
theorem UB_ex (S : IT) (L : List (Int × Int)) : ∃ U : IT, UB S U L := by
  refine ⟨fun o z => if o = 285 then (L[z.toNat]?.getD (0, 0)).1 else if o = 286 then (L[z.toNat]?.getD (0, 0)).2 else if o = 100 ∧ z = 84 then L.length else S o z, fun o z ho => ?_, fun i e he => ⟨?_, ?_⟩, ?_⟩
  · show (if o = 285 then _ else _) = S o z
    rw [if_neg (by omega), if_neg (by omega), if_neg (by omega)]
  · show (if (285 : Nat) = 285 then _ else _) = e.1
    rw [if_pos rfl, Int.toNat_natCast, he]; rfl
  · show (if (286 : Nat) = 285 then _ else _) = e.2
    rw [if_neg (by decide), if_pos rfl, Int.toNat_natCast, he]; rfl
  · show (if (100 : Nat) = 285 then _ else _) = _
    rw [if_neg (by decide), if_neg (by decide), if_pos ⟨rfl, rfl⟩]
/-- the leaves' numbers stay within bounds -/
theorem dl_V {D : IT} (hq : 10000 ≤ q) (h0 : PlV D) (hl : ∀ j : Nat, j < n → (D (q + 3) j = 0 → (0 ≤ D (q + 4) ((j : Int) * 4 + 0) ∧ D (q + 4) ((j : Int) * 4 + 0) < 6) ∧ D (q + 5) j ≤ 4)) (h5 : ∀ t, 0 ≤ t → t < 6 → 0 ≤ D 1385 t ∧ D 1385 t ≤ 10) (h6 : ∀ k, 0 ≤ k → k < 24 → 0 ≤ D 1386 k) : ∀ m, m ≤ n → PlV (dlL D q m) := by
  intro m
  induction m with
  | zero =>
    intro _
    refine ⟨fun l a b => ?_, fun p a b => ?_⟩
    · rw [show dlL D q 0 1390 l = D 1390 l from up2_o _ _ _ _ (by decide)]; exact h0.1 l a b
    · rw [show dlL D q 0 1393 p = D 1393 p from up2_o _ _ _ _ (by decide)]; exact h0.2 p a b
  | succ m ihq =>
    intro hm
    obtain ⟨i1, i2⟩ := ihq (by omega)
    by_cases y : dlS (dlL D q m) q m
    · rw [dlL_yes y]
      have o3 : dlL D q m (q + 3) = D (q + 3) := dlL_o (by omega) (by omega) (by omega) (by omega) (by omega) m
      have o4 : dlL D q m (q + 4) = D (q + 4) := dlL_o (by omega) (by omega) (by omega) (by omega) (by omega) m
      have o5 : dlL D q m (q + 5) = D (q + 5) := dlL_o (by omega) (by omega) (by omega) (by omega) (by omega) m
      have oa : dlL D q m 1385 = D 1385 := dlL_o (by decide) (by decide) (by decide) (by decide) (by decide) m
      have ob : dlL D q m 1386 = D 1386 := dlL_o (by decide) (by decide) (by decide) (by decide) (by decide) m
      generalize dlL D q m = W at *
      have lm := hl m (by omega)
      have rowv : 0 ≤ (if W (q + 3) m = 0 then W 1385 (dlT W q m) else 10) ∧ (if W (q + 3) m = 0 then W 1385 (dlT W q m) else 10) ≤ 10 := by
        by_cases z : W (q + 3) m = 0
        · rw [if_pos z]
          unfold dlT
          rw [if_pos z, oa, o4]
          rw [o3] at z
          exact h5 _ (lm z).1.1 (lm z).1.2
        · rw [if_neg z]; exact ⟨by decide, by decide⟩
      unfold dlO
      generalize (if W (q + 3) m = 0 then W 1385 (dlT W q m) else 10) = rv at *
      refine ⟨fun l a b => ?_, fun p a b => ?_⟩
      · rw [up2_o _ _ _ _ (by decide), dcE_o (by decide) (by decide), up2_o _ _ _ _ (by decide), up2_if]
        split
        · exact rowv
        · exact i1 l a b
      · rw [up2_o _ _ _ _ (by decide), dcE_3]
        split
        · next w =>
          unfold dlV dlB
          by_cases z : W (q + 3) m = 0
          · rw [if_pos z, if_neg (by decide)]
            unfold dlT
            rw [if_pos z, o4, ob]
            rw [o5] at w
            rw [o3] at z
            have := lm z
            exact h6 _ (by omega) (by omega)
          · rw [if_neg z, if_pos rfl]; decide
        · rw [up2_o _ _ _ _ (by decide), up2_o _ _ _ _ (by decide)]; exact i2 p a b
    · rw [dlL_no y]; exact ⟨i1, i2⟩
theorem fG_rg {cond : Int × Int → Prop} {lf dv : Int × Int → Int} : ∀ (l : List (Int × Int)) (g : Int → Int), (∀ e ∈ l, cond e → 0 ≤ dv e) → ∀ z, 0 ≤ g z → g z ≤ 10 → 0 ≤ l.foldl (fG cond lf dv) g z ∧ l.foldl (fG cond lf dv) g z ≤ 10 := by
  intro l
  induction l with
  | nil => exact fun _ _ _ a b => ⟨a, b⟩
  | cons e l ihq =>
    intro g hd z a b
    have st : 0 ≤ fG cond lf dv g e z ∧ fG cond lf dv g e z ≤ 10 := by
      unfold fG
      by_cases y : cond e ∧ z = lf e
      · rw [if_pos y]
        have := mDiv_rg (v := g z) (b := dv e) a (hd e List.mem_cons_self y.1)
        omega
      · rw [if_neg y]; exact ⟨a, b⟩
    exact ihq _ (fun u hu => hd u (List.mem_cons_of_mem _ hu)) z st.1 st.2
theorem plan_ok (hs : SSch S) (hqv : QV S x n) (hR : QRe I S q x n) (hN : QRn I S q x n) (hx : x = 12 * (Q + 1)) (hn1 : 1 ≤ n) (hq0 : 10000 ≤ q) (hpl : PlR I S) (hpv : PlV I) (htp : tpR I q (n - 1) ≠ -1) :
    ∃ top nl m : Nat, tpR I q (n - 1) = top ∧ PlOK I q top n nl m ∧ PlV (plI I q top n nl m) := by
  obtain ⟨T, hT⟩ := NI_ex hs hqv
  have h : Qk I S T q x n := ⟨⟨hs, hqv⟩, hR, hN, hT⟩
  have n12 := hqv.1
  obtain ⟨top, etop, ht, hi⟩ := (top_eq (Q := Q) (by rw [← hx]; exact h) hn1).2 htp
  rw [← hx] at hi
  obtain ⟨U, hB⟩ := UB_ex S (blkL T x n top 0)
  obtain ⟨⟨l1, l2⟩, lj, l22⟩ := blk_len h n top 0 ht ht
  have w3 := (wt_rg hs hqv ht).2
  have l2' := l22 hi
  have lL : (blkL T x n top 0).length ≤ 3 := by omega
  have wt := wd_rg hs hqv ht
  obtain ⟨c4, rows, cols⟩ := blk_cols h hx hq0 ht n12 hpl lL hB
  obtain ⟨r1, r2⟩ := reach_all h hq0 ht n12
  obtain ⟨j9, jat⟩ := clJ_at h hq0 ht n12
  have pm := clJ_perm h hq0 ht n12
  have X3 : rcI I q top (q + 3) = I (q + 3) := rcI_o (by omega) (by omega)
  have X4 : rcI I q top (q + 4) = I (q + 4) := rcI_o (by omega) (by omega)
  have X5 : rcI I q top (q + 5) = I (q + 5) := rcI_o (by omega) (by omega)
  have X7 : rcI I q top (q + 7) = I (q + 7) := rcI_o (by omega) (by omega)
  have kq : ∀ j : Nat, j < n → I (q + 3) j = S 256 (x + j) ∧ I (q + 4) ((j : Int) * 4 + 0) = S 257 (x + j) ∧ I (q + 4) ((j : Int) * 4 + 1) = S 258 (x + j) := fun j hj => (h.2.1.2 j hj).1
  have wq : ∀ j : Nat, j < n → I (q + 5) j = (wdN S x j : Int) ∧ 1 ≤ wdN S x j ∧ wdN S x j ≤ 10 := fun j hj => ⟨node_wid hqv hR hj, wd_rg hs hqv hj⟩
  have scan : ∀ j : Nat, j < n → I (q + 3) j = 0 → (0 ≤ I (q + 4) ((j : Int) * 4 + 0) ∧ I (q + 4) ((j : Int) * 4 + 0) < 6) ∧ I (q + 5) j ≤ 4 := fun j hj z => by
    obtain ⟨k1, k2, -⟩ := kq j hj
    rw [k1] at z
    have := wd_scan hs hqv hj z
    rw [k2, (wq j hj).1]
    exact ⟨this.1, by omega⟩
  have mkq : ∀ j : Nat, j < n → rcI I q top 1387 j ≠ 0 → ((j : Int), rcI I q top 1388 j) ∈ blkV T x n top 0 ∧ 0 ≤ rcI I q top 1388 j ∧ rcI I q top 1388 j + wdN S x j ≤ wdN S x top := fun j hj y => by
    rcases r1 j hj with w | w
    · have b : (0 : Int) ≤ rcI I q top 1388 j ∧ rcI I q top 1388 j + (wdN S x ((j : Int)).toNat : Int) ≤ 0 + wdN S x top := blkV_in h n top 0 ht ht _ w.2
      rw [Int.toNat_natCast] at b
      exact ⟨w.2, b.1, by omega⟩
    · exact (y w.1).elim
  have v1 : PlV (pl1 I q top n) := dl_V hq0 ⟨fun l a b => by rw [show rcI I q top 1390 = I 1390 from rcI_o (by decide) (by decide)]; exact hpv.1 l a b, fun p a b => by rw [show rcI I q top 1393 = I 1393 from rcI_o (by decide) (by decide)]; exact hpv.2 p a b⟩ (fun j hj z => by rw [X3] at z; rw [X4, X5]; exact scan j hj z) (fun t a b => by rw [show rcI I q top 1385 = I 1385 from rcI_o (by decide) (by decide)]; have := hpl.1 t a b; omega) (fun k a b => by rw [show rcI I q top 1386 = I 1386 from rcI_o (by decide) (by decide)]; have := hpl.2 k a b; omega) n (Nat.le_refl _)
  have p1o : ∀ o, o ≠ 1384 → o ≠ 1390 → o ≠ 1391 → o ≠ 1392 → o ≠ 1393 → pl1 I q top n o = rcI I q top o := fun o a b c d e => pl1_o a b c d e
  have af := af_fold h hx hq0 ht n12 hpl lL hB (P := fun j => rcI I q top 1387 j ≠ 0 ∧ isFlt (S 256 (x + (j : Int)))) (fun j _ => Iff.rfl) top (by omega)
  have e2 : pl2 I q top n 1390 = afL (pl1 I q top n) q top 1390 := rfl
  have v2 : PlV (pl2 I q top n) := by
    refine ⟨fun l a b => ?_, fun p a b => ?_⟩
    · rw [e2, af]
      refine fG_rg _ _ (fun e he ce => ?_) l (v1.1 l a b).1 (v1.1 l a b).2
      obtain ⟨j, hj, ej⟩ := List.mem_map.mp he
      obtain ⟨⟨-, jt⟩, y1, y2⟩ := (lvR_mem top j).mp hj
      have fc := flt_col h ht (by omega) (mkq j (by omega) y1).1 y2
      obtain ⟨i, k, -, -, ⟨-, c3⟩, -⟩ := cols (rcI I q top 1388 j + S 257 (x + j)) (by omega) fc.2.2
      rw [← ej]
      unfold dvF
      split
      · exact c3
      · decide
    · rw [show pl2 I q top n 1393 = pl1 I q top n 1393 from afL_o (by decide) top]; exact v1.2 p a b
  have p3o : ∀ o, o ≠ 1384 → o ≠ 1395 → o ≠ 1396 → pl3 I q top n o = pl2 I q top n o := fun o a b c => gjL_o a b c (top + 1)
  refine ⟨top, (blkL T x n top 0).length, (blkJ T x n top 0).length, etop, ⟨⟨ht, n12, hR.1⟩, fun z z0 z1 => ?_, fun z z0 z1 => ?_, ⟨fun l a b => ?_, v1.2, fun z z0 z1 hm hk => ?_⟩, fun z z0 z1 hm hk => ?_, ⟨?_, by omega, lL⟩, ⟨?_, by omega⟩, fun l a b => ?_, fun j j0 j1 => ?_⟩, ?_⟩
  · obtain ⟨j, rfl⟩ : ∃ j : Nat, z = j := ⟨z.toNat, by omega⟩
    have jn : j < n := by omega
    refine ⟨fun hb => ?_, by rw [(wq j jn).1]; have := wq j jn; omega⟩
    have inq := h.inn jn
    by_cases y : mInner T (x + j)
    · obtain ⟨j', l, ek, c7, c6, -, -, lj', -⟩ := h.two jn y
      rw [c7, c6]; omega
    · have hf : isFlt (T 256 (x + j)) := by
        rcases hb with w | w
        · exact (y (inq.1.mp w)).elim
        · exact inq.2.mp w
      obtain ⟨j', ek, c7, c6, -⟩ := h.one jn (by rw [← (h.op (j : Int)).1]; exact dOp_flt hf)
      rw [c7, c6]; omega
  · obtain ⟨j, rfl⟩ : ∃ j : Nat, z = j := ⟨z.toNat, by omega⟩
    have jn : j < n := by omega
    rw [X3, X4, X5]
    have w := wq j jn
    refine ⟨by omega, fun hz => ⟨(scan j jn hz).2, (scan j jn hz).1⟩, fun hm => ?_⟩
    have := mkq j jn hm
    rw [w.1]
    exact ⟨this.2.1, by omega⟩
  · have := v1.1 l a b; omega
  · obtain ⟨j, rfl⟩ : ∃ j : Nat, z = j := ⟨z.toNat, by omega⟩
    have jn : j < n := by omega
    rw [p1o 1387 (by decide) (by decide) (by decide) (by decide) (by decide)] at hm
    rw [p1o (q + 3) (by omega) (by omega) (by omega) (by omega) (by omega), X3, (kq j jn).1] at hk
    have mm := mkq j jn hm
    have fc := flt_col h ht jn mm.1 (Or.inl hk)
    have ap : afP (pl1 I q top n) q j = rcI I q top 1388 j + S 257 (x + j) := by
      unfold afP
      rw [p1o 1388 (by decide) (by decide) (by decide) (by decide) (by decide), p1o (q + 4) (by omega) (by omega) (by omega) (by omega) (by omega), X4, (kq j jn).2.1]
    obtain ⟨i, k, gk, ⟨c2, -⟩, -⟩ := cols (rcI I q top 1388 j + S 257 (x + j)) (by omega) fc.2.2
    rw [ap, c2, p1o 1388 (by decide) (by decide) (by decide) (by decide) (by decide), p1o (q + 4) (by omega) (by omega) (by omega) (by omega) (by omega), X4, (kq j jn).2.1]
    have il := (List.getElem?_eq_some_iff.mp gk).1
    exact ⟨⟨by omega, by omega⟩, ⟨by omega, by omega⟩, ⟨by omega, by omega⟩, by omega, by omega⟩
  · obtain ⟨j, rfl⟩ : ∃ j : Nat, z = j := ⟨z.toNat, by omega⟩
    have jn : j < n := by omega
    have d3 : pl2 I q top n (q + 3) = I (q + 3) := (pl2_o (by omega) (by omega) (by omega) (by omega) (by omega)).trans X3
    have d4 : pl2 I q top n (q + 4) = I (q + 4) := (pl2_o (by omega) (by omega) (by omega) (by omega) (by omega)).trans X4
    have d7 : pl2 I q top n (q + 7) = I (q + 7) := (pl2_o (by omega) (by omega) (by omega) (by omega) (by omega)).trans X7
    have p7 : pl2 I q top n 1387 = rcI I q top 1387 := pl2_o (by decide) (by decide) (by decide) (by decide) (by decide)
    have p8 : pl2 I q top n 1388 = rcI I q top 1388 := pl2_o (by decide) (by decide) (by decide) (by decide) (by decide)
    rw [p7] at hm
    have hk2 : quInn I q j := by
      unfold quInn at hk ⊢
      rw [d3, d4] at hk
      exact hk
    have hmi := (h.inn jn).1.mp hk2
    have mm := mkq j jn hm
    obtain ⟨j', l, ek, c7, c6, t8, t7, lj', -, -, t9, -⟩ := h.two jn hmi
    have ch := (blkV_child h n top 0 ht ht _ mm.1 hmi).1
    have r8 := (r2 _ ch).2
    have r8' : rcI I q top 1387 (T 280 (j : Int)) = 1 ∧ rcI I q top 1388 (T 280 (j : Int)) = rcI I q top 1388 (j : Int) + T 281 (T 279 (j : Int)) := r8
    rw [t8] at r8'
    have m2 := mkq j' (by omega) (by rw [r8'.1]; decide)
    obtain ⟨o1, o2, -⟩ := h.op (j : Int)
    obtain ⟨i1, i2⟩ := h.2.2.1 j jn
    obtain ⟨w1, w2, w4⟩ := wd_two hqv jn (by rw [← o1]; exact hmi.1) (by rw [← o2, hmi.2]; decide) (i2.symm.trans c7) (i1.symm.trans c6)
    obtain ⟨⟨k1, k2, k3⟩, k4, -⟩ := h.2.1.2 j jn
    have wl := wq l (by omega)
    have wj := wq j' (by omega)
    rw [p8, d4, d7, c7, k3, k4 (by rw [← o1, hmi.1]; omega)]
    exact ⟨⟨by omega, by omega⟩, ⟨by omega, by omega⟩, ⟨by omega, by omega⟩, ⟨by omega, by omega⟩, by omega, by omega⟩
  · show gjL (pl2 I q top n) q (top + 1) 1384 4 = _
    rw [gjL_k (by decide), show pl2 I q top n 1384 = pl1 I q top n 1384 from afL_o (by decide) top]
    exact c4
  · rw [j9, pm.length_eq]
  · rw [p3o 1390 (by decide) (by decide) (by decide)]; exact v2.1 l a b
  · obtain ⟨e, gj⟩ : ∃ e, (clJ I T q x top)[j.toNat]? = some e := ⟨_, List.getElem?_eq_getElem (show j.toNat < (clJ I T q x top).length by rw [pm.length_eq]; omega)⟩
    obtain ⟨a1, a2⟩ := jat j.toNat e gj
    rw [show ((j.toNat : Nat) : Int) = j by omega] at a1 a2
    have mem := pm.mem_iff.mp (List.mem_of_getElem? gj)
    rw [blkI_J] at mem
    obtain ⟨d, hd, ed⟩ := List.mem_map.mp mem
    have cl := jn_col h ht d hd
    rw [ed] at cl
    obtain ⟨i, k, gk, ⟨c1, -⟩, ⟨c3, c3'⟩, -⟩ := cols e.1 cl.1.1 cl.1.2
    obtain ⟨i', k', gk', ⟨d1, -⟩, ⟨d3, d3'⟩, -⟩ := cols e.2 cl.2.1 cl.2.2
    have il := (List.getElem?_eq_some_iff.mp gk).1
    have il' := (List.getElem?_eq_some_iff.mp gk').1
    unfold CnOK
    have q2 : pl3 I q top n 1392 = pl1 I q top n 1392 := (p3o 1392 (by decide) (by decide) (by decide)).trans (afL_o (by decide) top)
    have q3 : pl3 I q top n 1393 = pl1 I q top n 1393 := (p3o 1393 (by decide) (by decide) (by decide)).trans (afL_o (by decide) top)
    rw [a1, a2, q2, q3, c1, d1, c3, d3]
    exact ⟨⟨by omega, by omega⟩, ⟨by omega, by omega⟩, ⟨by omega, by omega⟩, ⟨by omega, by omega⟩, c3', d3'⟩
  · have e9 : ∀ o, o = 1390 ∨ o = 1393 → plI I q top n (blkL T x n top 0).length (blkJ T x n top 0).length o = pl2 I q top n o := fun o ho => by
      have a1 : plI I q top n (blkL T x n top 0).length (blkJ T x n top 0).length o = pl4 I q top n (blkL T x n top 0).length (blkJ T x n top 0).length o := funext (fun z => up2_o _ _ _ _ (by omega))
      rw [a1]
      exact (chZ_o (by omega) (by omega) (by omega) _).trans (p3o o (by omega) (by omega) (by omega))
    exact ⟨fun l a b => by rw [e9 1390 (by omega)]; exact v2.1 l a b, fun p a b => by rw [e9 1393 (by omega)]; exact v2.2 p a b⟩
end
