/-! what an order costs: class and reference -/
section
variable {I S T U V J : IT} {x Q : Int} {n q top : Nat}
theorem jG_same {lf vl lf' vl' : Int → Int} {t leaf r : Int} {e : Int × Int} (h1 : lf e.1 = lf' e.1) (h2 : lf e.2 = lf' e.2) (h3 : vl e.1 = vl' e.1) (h4 : vl e.2 = vl' e.2) : jG lf vl t leaf r e = jG lf' vl' t leaf r e := by
  have tt : tieE lf t leaf e ↔ tieE lf' t leaf e := by unfold tieE; rw [h1, h2]
  unfold jG
  by_cases y : tieE lf t leaf e
  · rw [if_pos y, if_pos (tt.mp y), h3, h4]
  · rw [if_neg y, if_neg (fun z => y (tt.mpr z))]
/-- an inner join's columns lie in the block -/
theorem jn_col (h : Qk I S T q x n) (ht : top < n) (e : Int × Int) (he : e ∈ blkI T x n top 0) : (0 ≤ (jnE T x e).1 ∧ (jnE T x e).1 < wdN S x top) ∧ 0 ≤ (jnE T x e).2 ∧ (jnE T x e).2 < wdN S x top := by
  obtain ⟨a1, a2⟩ := (blkI_mem n top 0 e).mp he
  have rg := blkV_rg h n top 0 ht ht e a1
  have ar := sA_rg (S := S) (x := x) (k := top)
  have b := blkV_in h n top 0 ht ht e a1
  obtain ⟨k, ek⟩ : ∃ k : Nat, e.1 = k := ⟨e.1.toNat, by omega⟩
  rw [ek] at a2
  have kn : k < n := by omega
  obtain ⟨j, l, ej, c7, c6, t8, t7, lj, e3, ea, t9, c5⟩ := h.two kn a2
  obtain ⟨o1, o2, o3, o4, -⟩ := h.op (k : Int)
  obtain ⟨i1, i2⟩ := h.2.2.1 k kn
  obtain ⟨w1, w2, w3⟩ := wd_two h.1.2 kn (by rw [← o1]; exact a2.1) (by rw [← o2, a2.2]; decide) (i2.symm.trans c7) (i1.symm.trans c6)
  unfold jnE
  rw [ek, o3, o4, t7, t9]
  rw [ek, Int.toNat_natCast] at b
  exact ⟨⟨by show 0 ≤ e.2 + S 258 (x + k); omega, by show e.2 + S 258 (x + k) < wdN S x top; omega⟩, by show 0 ≤ e.2 + (wdN S x l : Int) + S 259 (x + k); omega, by show e.2 + (wdN S x l : Int) + S 259 (x + k) < wdN S x top; omega⟩
/-- the class's joins, in its order -/
noncomputable def clJ (I T : IT) (q : Nat) (x : Int) (top : Nat) : List (Int × Int) := ((lvR (fun j : Nat => rcI I q top 1387 j ≠ 0 ∧ quInn I q j) 0 (top + 1)).map (fun j : Nat => ((j : Int), rcI I q top 1388 (j : Int)))).map (jnE T x)
theorem clJ_perm (h : Qk I S T q x n) (hq0 : 10000 ≤ q) (ht : top < n) (n12 : n ≤ 12) : (clJ I T q x top).Perm (blkJ T x n top 0) := by
  obtain ⟨r1, r2⟩ := reach_all h hq0 ht n12
  rw [blkI_J]
  refine List.Perm.map _ (asc_perm h hq0 ht n12 (R := blkI T x n top 0) (m := top + 1) (by omega) (blkI_sub n top 0) (fun e he => ?_) (fun j hj => ?_))
  · have := (r2 e ((blkI_mem n top 0 e).mp he).1).1
    omega
  · have inq := (h.inn (k := j) (by omega)).1
    constructor
    · rintro ⟨y1, y2⟩
      rcases r1 j (by omega) with w | w
      · exact ⟨_, (blkI_mem n top 0 _).mpr ⟨w.2, inq.mp y2⟩⟩
      · exact (y1 w.1).elim
    · rintro ⟨v, hv⟩
      obtain ⟨a1, a2⟩ := (blkI_mem n top 0 _).mp hv
      have := (r2 _ a1).2.1
      exact ⟨by rw [show rcI I q top 1387 (j : Int) = 1 from this]; decide, inq.mpr a2⟩
theorem pl2_o {o : Nat} (h1 : o ≠ 1384) (h2 : o ≠ 1390) (h3 : o ≠ 1391) (h4 : o ≠ 1392) (h5 : o ≠ 1393) : pl2 I q top n o = rcI I q top o := (afL_o h2 top).trans (pl1_o h1 h2 h3 h4 h5)
theorem clJ_at (h : Qk I S T q x n) (hq0 : 10000 ≤ q) (ht : top < n) (n12 : n ≤ 12) : pl3 I q top n 1384 9 = (clJ I T q x top).length ∧ ∀ (i : Nat) e, (clJ I T q x top)[i]? = some e → pl3 I q top n 1395 i = e.1 ∧ pl3 I q top n 1396 i = e.2 := by
  obtain ⟨r1, r2⟩ := reach_all h hq0 ht n12
  have d3 : pl2 I q top n (q + 3) = I (q + 3) := (pl2_o (by omega) (by omega) (by omega) (by omega) (by omega)).trans (rcI_o (by omega) (by omega))
  have d4 : pl2 I q top n (q + 4) = I (q + 4) := (pl2_o (by omega) (by omega) (by omega) (by omega) (by omega)).trans (rcI_o (by omega) (by omega))
  have d7 : pl2 I q top n (q + 7) = I (q + 7) := (pl2_o (by omega) (by omega) (by omega) (by omega) (by omega)).trans (rcI_o (by omega) (by omega))
  have p7 : pl2 I q top n 1387 = rcI I q top 1387 := pl2_o (by decide) (by decide) (by decide) (by decide) (by decide)
  have p8 : pl2 I q top n 1388 = rcI I q top 1388 := pl2_o (by decide) (by decide) (by decide) (by decide) (by decide)
  have qi : ∀ j : Int, quInn (pl2 I q top n) q j ↔ quInn I q j := fun j => by unfold quInn; rw [d3, d4]
  obtain ⟨g1, g2⟩ := gj_list (D := pl2 I q top n) (n := n) hq0 (P := fun j => rcI I q top 1387 j ≠ 0 ∧ quInn I q j) (fun j hj => by rw [p7, qi]) (top + 1) (by omega)
  have e3 : pl3 I q top n = gjL (pl2 I q top n) q (top + 1) := rfl
  rw [e3]
  refine ⟨by rw [g1]; unfold clJ; rw [List.length_map, List.length_map], fun i e hi => ?_⟩
  unfold clJ at hi
  rw [List.map_map, List.getElem?_map] at hi
  cases hj : (lvR (fun j : Nat => rcI I q top 1387 j ≠ 0 ∧ quInn I q j) 0 (top + 1))[i]? with
  | none => rw [hj] at hi; cases hi
  | some j =>
    rw [hj] at hi
    have ee : jnE T x ((j : Int), rcI I q top 1388 (j : Int)) = e := Option.some.inj hi
    obtain ⟨a1, a2⟩ := g2 i j hj
    obtain ⟨⟨-, jt⟩, y1, y2⟩ := (lvR_mem (top + 1) j).mp (List.mem_of_getElem? hj)
    have jn : j < n := by omega
    have hm := (h.inn jn).1.mp y2
    have hv : ((j : Int), rcI I q top 1388 j) ∈ blkV T x n top 0 := by
      rcases r1 j jn with w | w
      · exact w.2
      · exact (y1 w.1).elim
    obtain ⟨j', l, ek, c7, c6, t8, t7, lj, e4, ea, t9, c5⟩ := h.two jn hm
    have ch := (blkV_child h n top 0 ht ht _ hv hm).1
    have r8 := (r2 _ ch).2.2
    have r8' : rcI I q top 1388 (T 280 (j : Int)) = rcI I q top 1388 (j : Int) + T 281 (T 279 (j : Int)) := r8
    obtain ⟨⟨k1, k2, k3⟩, k4, -⟩ := h.2.1.2 j jn
    obtain ⟨o1, o2, o3, o4, -⟩ := h.op (j : Int)
    have m4 : S 256 (x + j) = 4 := by rw [← o1]; exact hm.1
    rw [a1, a2, p8, d4, d7, k3, k4 (by omega), ← ee]
    unfold jnE
    refine ⟨by show _ = rcI I q top 1388 (j : Int) + T 258 (x + j); rw [o3], ?_⟩
    show rcI I q top 1388 (I (q + 7) (j : Int)) + S 259 (x + j) = rcI I q top 1388 (j : Int) + T 281 (T 279 (j : Int)) + T 259 (x + j)
    rw [c7, ← t8, r8', o4]
/-- the rows behind all joins -/
theorem joins_eq (h : Qk I S T q x n) (hx : x = 12 * (Q + 1)) (hq0 : 10000 ≤ q) (ht : top < n) (n12 : n ≤ 12) (hpl : PlR I S) (hl : (blkL T x n top 0).length ≤ 3) (hB : UB S U (blkL T x n top 0)) (hJ : holds U 289 290 (blkJ T x n top 0)) (hV : ∀ o, o = 1392 ∨ o = 1393 ∨ o = 1395 ∨ o = 1396 → V o = pl3 I q top n o) {t leaf r : Int} :
    ctJ V t leaf r (blkJ T x n top 0).length = mCj U Q (blkL T x n top 0).length t leaf r (blkJ T x n top 0).length := by
  obtain ⟨-, -, cols⟩ := blk_cols h hx hq0 ht n12 hpl hl hB
  have pm := clJ_perm h hq0 ht n12
  have at1 := (clJ_at h hq0 ht n12).2
  have p3o : ∀ o, o = 1392 ∨ o = 1393 → V o = pl1 I q top n o := fun o ho => (hV o (by omega)).trans ((gjL_o (by omega) (by omega) (by omega) (top + 1)).trans (afL_o (by omega) top))
  rw [← pm.length_eq, ctJ_fold (L := clJ I T q x top) (fun i e hi => by rw [hV 1395 (by omega), hV 1396 (by omega)]; exact at1 i e hi) _ (Nat.le_refl _), List.take_length, pm.length_eq, mCj_fold (L := blkJ T x n top 0) hJ _ (Nat.le_refl _), List.take_length]
  have cl : ∀ e ∈ blkJ T x n top 0, (0 ≤ e.1 ∧ e.1 < wdN S x top) ∧ 0 ≤ e.2 ∧ e.2 < wdN S x top := fun e he => by
    rw [blkI_J] at he
    obtain ⟨d, hd, ed⟩ := List.mem_map.mp he
    rw [← ed]
    exact jn_col h ht d hd
  rw [fold_same (g := jG (fun c => mLeaf U c (blkL T x n top 0).length) (mVals U Q) t leaf) (clJ I T q x top) r (fun e he z => ?_)]
  · refine perm_foldl pm (fun a ha b hb z => jG_comm ?_ ?_ z) r
    · have ca := cl a (pm.mem_iff.mp ha)
      obtain ⟨i, k, -, -, ⟨-, c3⟩, -⟩ := cols a.1 ca.1.1 ca.1.2
      obtain ⟨i', k', -, -, ⟨-, c4⟩, -⟩ := cols a.2 ca.2.1 ca.2.2
      exact mMax_rg c3 c4
    · have ca := cl b (pm.mem_iff.mp hb)
      obtain ⟨i, k, -, -, ⟨-, c3⟩, -⟩ := cols b.1 ca.1.1 ca.1.2
      obtain ⟨i', k', -, -, ⟨-, c4⟩, -⟩ := cols b.2 ca.2.1 ca.2.2
      exact mMax_rg c3 c4
  · have ca := cl e (pm.mem_iff.mp he)
    obtain ⟨i, k, -, ⟨c1, c2⟩, ⟨c3, -⟩, -⟩ := cols e.1 ca.1.1 ca.1.2
    obtain ⟨i', k', -, ⟨d1, d2⟩, ⟨d3, -⟩, -⟩ := cols e.2 ca.2.1 ca.2.2
    exact jG_same (by rw [p3o 1392 (by omega), c1]; exact c2.symm) (by rw [p3o 1392 (by omega), d1]; exact d2.symm) (by rw [p3o 1393 (by omega)]; exact c3) (by rw [p3o 1393 (by omega)]; exact d3)
theorem digO_0 (y : Int) : digO y 0 = y % 4 := by
  unfold digO
  show y / 2 ^ 0 % 4 = y % 4
  rw [Int.pow_zero, Int.ediv_one]
theorem cost_eq {code : Int} {nl m : Nat} (hn : 1 ≤ nl) (hd : ∀ k : Nat, k < nl → V 1397 k = digO code k ∧ digO code k < nl) (hr : ∀ z : Int, 0 ≤ z → z < nl → V 1390 z = J 287 z) (hj : ∀ t leaf r, ctJ V t leaf r m = mCj U Q nl t leaf r m) : ∀ k, k < nl → ctC V m k = mCost J U Q code nl m k := by
  intro k
  induction k with
  | zero =>
    intro _
    obtain ⟨d1, d2⟩ := hd 0 hn
    have dr := digO_rg code 0
    show (V 1390 (V 1397 (0 : Nat)), (0 : Int), (2 : Int) ^ (V 1397 (0 : Nat)).toNat) = (J 287 (code % 4), (0 : Int), (2 : Int) ^ (code % 4).toNat)
    rw [d1, ← digO_0, hr _ dr.1 d2]
  | succ k ihq =>
    intro hk
    obtain ⟨d1, d2⟩ := hd (k + 1) hk
    have dr := digO_rg code (k + 1)
    have e1 := ihq (by omega)
    show (ctJ V (ctC V m k).2.2 (V 1397 (k + 1 : Nat)) ((ctC V m k).1 * V 1390 (V 1397 (k + 1 : Nat))) m, (ctC V m k).2.1 + ctJ V (ctC V m k).2.2 (V 1397 (k + 1 : Nat)) ((ctC V m k).1 * V 1390 (V 1397 (k + 1 : Nat))) m, orB (ctC V m k).2.2 (V 1397 (k + 1 : Nat))) = _
    rw [e1, d1, hr _ dr.1 d2, hj]
    rfl
end
