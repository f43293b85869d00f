/-! what is reached: class and reference -/
section
variable {I S T U : IT} {x : Int} {n q : Nat}
theorem dOp_0 {op : Int} (h : dOp op = 0) : op = 0 := by
  unfold dOp at h
  split at h
  · assumption
  · split at h <;> cases h
theorem dOp_2 {op : Int} (h : dOp op = 2) : op = 4 ∨ op = 7 := by
  unfold dOp at h
  split at h
  · cases h
  · split at h
    · assumption
    · cases h
theorem dOp_1 {op : Int} (h : dOp op = 1) : op ≠ 0 ∧ ¬ (op = 4 ∨ op = 7) := by
  unfold dOp at h
  split at h
  · cases h
  · split at h
    · cases h
    · exact ⟨by assumption, by assumption⟩
theorem node_wid (hq : QV S x n) (hR : QRe I S q x n) {j : Nat} (hj : j < n) : I (q + 5) j = (wdN S x j : Int) := by
  obtain ⟨-, exq, hxq⟩ := ws1_shape (col := S 201) (hq.2 j hj)
  have e1q : wsT S x (j + 1) = exq :: (wsT S x j).drop (dOp (S 256 (x + j))) := hxq
  obtain ⟨-, -, -, -, hwq⟩ := hR.2 j hj
  rw [hwq _ _ e1q]
  unfold wdN
  rw [e1q]; rfl
theorem node_eq (hs : SSch S) (hq : QV S x n) (hN : QRn I S q x n) (hT : NI S T x n) {j : Nat} (hj : j < n) : T 279 j = I (q + 6) j ∧ T 280 j = I (q + 7) j ∧ T 281 j = (wdN S x j : Int) := by
  obtain ⟨t1, t2, t3⟩ := hT.2.2 j hj
  obtain ⟨i1, i2⟩ := hN j hj
  have atj := (nsW_eq hs hq j (by omega)).2
  have dl := rtT_dOp hq hj
  rw [t1, t2, t3, i1, i2]
  refine ⟨?_, ?_, ?_⟩
  · unfold nLft nd1
    rcases dOp_cases (S 256 (x + j)) with d | d | d
    · rw [if_pos d, if_neg (by have := dOp_0 d; omega), if_pos (dOp_0 d)]
    · have e1q := dOp_1 d
      rw [if_neg e1q.2, if_neg e1q.1, if_neg (by omega), if_neg (by omega)]
      have g0q := List.getElem?_eq_getElem (show 0 < (rtT S x j).length by omega)
      rw [getD_some g0q]
      have g1q := atj 0 _ g0q
      unfold nA
      cases hn : nsW S x j with
      | nil => rw [hn] at g1q; cases g1q
      | cons a st => rw [hn] at g1q; cases g1q; rfl
    · rw [if_pos (dOp_2 d), if_neg (by omega), if_pos d]
      have g0q := List.getElem?_eq_getElem (show 1 < (rtT S x j).length by omega)
      rw [getD_some g0q]
      have g1q := atj 1 _ g0q
      unfold nB
      cases hn : nsW S x j with
      | nil => rw [hn] at g1q; cases g1q
      | cons a st =>
        cases st with
        | nil => rw [hn] at g1q; cases g1q
        | cons b st => rw [hn] at g1q; cases g1q; rfl
  · unfold nRgt nd2
    by_cases d : dOp (S 256 (x + j)) = 2
    · rw [if_pos (dOp_2 d), if_pos d]
      have g0q := List.getElem?_eq_getElem (show 0 < (rtT S x j).length by omega)
      rw [getD_some g0q]
      have g1q := atj 0 _ g0q
      unfold nA
      cases hn : nsW S x j with
      | nil => rw [hn] at g1q; cases g1q
      | cons a st => rw [hn] at g1q; cases g1q; rfl
    · rw [if_neg d, if_neg (fun z => d (by unfold dOp; rw [if_neg (by omega), if_pos z]))]
  · have g1q := (nsW_eq hs hq (j + 1) (by omega)).2 0 (j : Int) rfl
    rw [Int.toNat_natCast] at g1q
    have g2q : (nsW S x (j + 1))[0]? = some ((j : Int), nWid S (x + j) (nsW S x j)) := rfl
    rw [g2q] at g1q
    exact (Prod.mk.inj (Option.some.inj g1q)).2
/-- one operator of a block is gone through -/
noncomputable def rcP (q : Nat) (U : IT) (k : Nat) : IT := if U 1387 k ≠ 0 ∧ bI (quBlk U q k) = 1 then rcO U q k else U
/-- m operators below hi, the highest first -/
noncomputable def rcM (q : Nat) : Nat → Nat → IT → IT
  | 0, _, U => U
  | m + 1, hi, U => rcM q m (hi - 1) (rcP q U (hi - 1))
theorem rcM_L : ∀ (m : Nat) (U : IT), rcM q m m U = rcL q m U := by
  intro m
  induction m with
  | zero => exact fun _ => rfl
  | succ m ihq =>
    intro U
    show rcM q m (m + 1 - 1) (rcP q U (m + 1 - 1)) = rcL q m (if U 1387 m ≠ 0 ∧ bI (quBlk U q m) = 1 then rcO U q m else U)
    rw [Nat.add_sub_cancel, ihq]
    rfl
theorem rcM_add : ∀ (a b hi : Nat) (U : IT), rcM q (a + b) hi U = rcM q b (hi - a) (rcM q a hi U) := by
  intro a
  induction a with
  | zero => intro b hi U; rw [Nat.zero_add]; rfl
  | succ a ihq =>
    intro b hi U
    rw [show a + 1 + b = (a + b) + 1 by omega]
    show rcM q (a + b) (hi - 1) (rcP q U (hi - 1)) = rcM q b (hi - (a + 1)) (rcM q a (hi - 1) (rcP q U (hi - 1)))
    rw [ihq, show hi - 1 - a = hi - (a + 1) by omega]
theorem rcP_o {o k : Nat} (h : o ≠ 1387) (h2 : o ≠ 1388) : rcP q U k o = U o := by
  unfold rcP
  split
  · exact rcO_o h h2
  · rfl
theorem rcM_o {o : Nat} (h : o ≠ 1387) (h2 : o ≠ 1388) : ∀ (m hi : Nat) (U : IT), rcM q m hi U o = U o := by
  intro m
  induction m with
  | zero => exact fun _ _ => rfl
  | succ m ihq => intro hi U; exact (ihq (hi - 1) _).trans (rcP_o h h2)
/-- what class and reference know of a query's operators -/
def Qk (I S T : IT) (q : Nat) (x : Int) (n : Nat) : Prop := (SSch S ∧ QV S x n) ∧ QRe I S q x n ∧ QRn I S q x n ∧ NI S T x n
theorem Qk.op (h : Qk I S T q x n) (k : Int) : T 256 (x + k) = S 256 (x + k) ∧ T 257 (x + k) = S 257 (x + k) ∧ T 258 (x + k) = S 258 (x + k) ∧ T 259 (x + k) = S 259 (x + k) ∧ T 260 (x + k) = S 260 (x + k) :=
  ⟨h.2.2.2.1 256 _ (by decide) (by decide) (by decide) (by decide), h.2.2.2.1 257 _ (by decide) (by decide) (by decide) (by decide), h.2.2.2.1 258 _ (by decide) (by decide) (by decide) (by decide), h.2.2.2.1 259 _ (by decide) (by decide) (by decide) (by decide), h.2.2.2.1 260 _ (by decide) (by decide) (by decide) (by decide)⟩
theorem Qk.inn (h : Qk I S T q x n) {k : Nat} (hk : k < n) : (quInn I q k ↔ mInner T (x + k)) ∧ (quFlt I q k ↔ isFlt (T 256 (x + k))) := by
  obtain ⟨⟨r1, r2, -⟩, -⟩ := h.2.1.2 k hk
  obtain ⟨o1, o2, -⟩ := h.op (k : Int)
  rw [Int.add_zero] at r2
  unfold quInn quFlt mInner isFlt
  rw [r1, r2, o1, o2]
  exact ⟨Iff.rfl, Iff.rfl⟩
/-- an inner join's operands -/
theorem Qk.two (h : Qk I S T q x n) {k : Nat} (hk : k < n) (hm : mInner T (x + k)) : ∃ j l : Nat, k = j + 1 ∧ I (q + 7) k = j ∧ I (q + 6) k = l ∧ T 280 k = j ∧ T 279 k = l ∧ l < j ∧ (l : Int) + 1 = sA S x j ∧ sA S x k = sA S x l ∧ T 281 l = (wdN S x l : Int) ∧ I (q + 5) l = (wdN S x l : Int) := by
  have o1 := (h.op (k : Int)).1
  have d : dOp (S 256 (x + k)) = 2 := by
    unfold dOp
    rw [← o1, hm.1]
    rfl
  obtain ⟨j, l, ek, e2, e1, lj, ej, ea⟩ := nd_two h.1.2 hk d
  obtain ⟨i1, i2⟩ := h.2.2.1 k hk
  obtain ⟨t1, t2, -⟩ := node_eq h.1.1 h.1.2 h.2.2.1 h.2.2.2 hk
  have t3 := (node_eq h.1.1 h.1.2 h.2.2.1 h.2.2.2 (j := l) (by omega)).2.2
  have w3 := node_wid h.1.2 h.2.1 (j := l) (by omega)
  exact ⟨j, l, ek, i2.trans e2, i1.trans e1, t2.trans (i2.trans e2), t1.trans (i1.trans e1), lj, ej, ea, t3, w3⟩
/-- a FILTER's operand -/
theorem Qk.one (h : Qk I S T q x n) {k : Nat} (hk : k < n) (hm : dOp (S 256 (x + k)) = 1) : ∃ j : Nat, k = j + 1 ∧ I (q + 7) k = -1 ∧ I (q + 6) k = j ∧ T 279 k = j ∧ sA S x k = sA S x j := by
  obtain ⟨j, ek, e1, e2, ea⟩ := nd_one h.1.2 hk hm
  obtain ⟨i1, i2⟩ := h.2.2.1 k hk
  obtain ⟨t1, t2, -⟩ := node_eq h.1.1 h.1.2 h.2.2.1 h.2.2.2 hk
  exact ⟨j, ek, i2.trans e2, i1.trans e1, t1.trans (i1.trans e1), ea⟩
theorem dOp_flt {op : Int} (h : isFlt op) : dOp op = 1 := by
  unfold isFlt at h
  unfold dOp
  rw [if_neg (by omega), if_neg (by omega)]
/-- going down from a node marks what stands in its block, and nothing else -/
theorem rc_sub (h : Qk I S T q x n) (hq0 : 10000 ≤ q) : ∀ (f k : Nat) (o : Int) (U : IT), k < f → k < n → (∀ o, o ≠ 1387 → o ≠ 1388 → U o = I o) → U 1387 k = 1 → U 1388 k = o → (∀ j : Int, sA S x k ≤ j → j < k → U 1387 j = 0) →
    (∀ j : Int, (j < sA S x k ∨ (k : Int) < j) → rcM q (k + 1 - (sA S x k).toNat) (k + 1) U 1387 j = U 1387 j ∧ rcM q (k + 1 - (sA S x k).toNat) (k + 1) U 1388 j = U 1388 j) ∧
    (∀ j : Int, sA S x k ≤ j → j ≤ k → (rcM q (k + 1 - (sA S x k).toNat) (k + 1) U 1387 j = 1 ∧ (j, rcM q (k + 1 - (sA S x k).toNat) (k + 1) U 1388 j) ∈ blkV T x f k o) ∨ (rcM q (k + 1 - (sA S x k).toNat) (k + 1) U 1387 j = 0 ∧ ∀ v, (j, v) ∉ blkV T x f k o)) ∧
    (∀ e ∈ blkV T x f k o, (sA S x k ≤ e.1 ∧ e.1 ≤ k) ∧ rcM q (k + 1 - (sA S x k).toNat) (k + 1) U 1387 e.1 = 1 ∧ rcM q (k + 1 - (sA S x k).toNat) (k + 1) U 1388 e.1 = e.2) := by
  intro f
  induction f with
  | zero => intro k o U hf; omega
  | succ f ihq =>
    intro k o U hf hk hU h1 h2 h0
    have ar := sA_rg (S := S) (x := x) (k := k)
    have inq := h.inn hk
    have q3 : U (q + 3) = I (q + 3) := hU _ (by omega) (by omega)
    have q4 : U (q + 4) = I (q + 4) := hU _ (by omega) (by omega)
    have q5 : U (q + 5) = I (q + 5) := hU _ (by omega) (by omega)
    have q6 : U (q + 6) = I (q + 6) := hU _ (by omega) (by omega)
    have q7 : U (q + 7) = I (q + 7) := hU _ (by omega) (by omega)
    have bq : quBlk U q k ↔ quInn I q k ∨ quFlt I q k := quBlk_of q3 q4
    have e0q : k + 1 - (sA S x k).toNat = (k - (sA S x k).toNat) + 1 := by omega
    have stepq : rcM q (k + 1 - (sA S x k).toNat) (k + 1) U = rcM q (k - (sA S x k).toNat) k (rcP q U k) := by
      rw [e0q]; rfl
    rw [stepq]
    by_cases hi : mInner T (x + k)
    · obtain ⟨j, l, ek, c7, c6, t8, t7, lj, ej, ea, t9, c5⟩ := h.two hk hi
      rw [(blk_i hi).2.2, t7, t8, t9]
      have rp : rcP q U k = rcO U q k := if_pos ⟨by omega, bI1 (bq.mpr (Or.inl (inq.1.mpr hi)))⟩
      have ro : rcO U q k = up2 (up2 (up2 (up2 U 1387 l 1) 1388 l o) 1387 j 1) 1388 j (o + wdN S x l) := by
        unfold rcO
        rw [q6, q7, q5, c7, c6, c5, h2, if_neg (by omega)]
      rw [rp, ro]
      have arj := sA_rg (S := S) (x := x) (k := j)
      have arl := sA_rg (S := S) (x := x) (k := l)
      have vo : ∀ o', o' ≠ 1387 → o' ≠ 1388 → up2 (up2 (up2 (up2 U 1387 l 1) 1388 l o) 1387 j 1) 1388 j (o + wdN S x l) o' = I o' := fun o' g1 g2 => (funext (fun z => (up2_o _ _ _ _ g2).trans ((up2_o _ _ _ _ g1).trans ((up2_o _ _ _ _ g2).trans (up2_o _ _ _ _ g1))))).trans (hU o' g1 g2)
      have v7 : ∀ z : Int, up2 (up2 (up2 (up2 U 1387 l 1) 1388 l o) 1387 j 1) 1388 j (o + wdN S x l) 1387 z = if z = j ∨ z = l then 1 else U 1387 z := fun z => by
        rw [up2_o _ _ _ _ (by decide), up2_if, up2_o _ _ _ _ (by decide), up2_if]
        by_cases y : z = j
        · rw [if_pos y, if_pos (Or.inl y)]
        · rw [if_neg y]
          by_cases w : z = l
          · rw [if_pos w, if_pos (Or.inr w)]
          · rw [if_neg w, if_neg (fun u => u.elim y w)]
      have v8 : ∀ z : Int, up2 (up2 (up2 (up2 U 1387 l 1) 1388 l o) 1387 j 1) 1388 j (o + wdN S x l) 1388 z = if z = j then o + wdN S x l else if z = l then o else U 1388 z := fun z => by
        rw [up2_if, up2_o _ _ _ _ (by decide), up2_if, up2_o _ _ _ _ (by decide)]
      generalize up2 (up2 (up2 (up2 U 1387 l 1) 1388 l o) 1387 j 1) 1388 j (o + wdN S x l) = V at *
      obtain ⟨p1, p2, p3⟩ := ihq j (o + wdN S x l) V (by omega) (by omega) vo (by rw [v7, if_pos (Or.inl rfl)]) (by rw [v8, if_pos rfl]) (fun z z0 z1 => by
        rw [v7, if_neg (by omega)]; exact h0 z (by omega) (by omega))
      have splitq : rcM q (k - (sA S x k).toNat) k V = rcM q (l + 1 - (sA S x l).toNat) (l + 1) (rcM q (j + 1 - (sA S x j).toNat) (j + 1) V) := by
        rw [show k - (sA S x k).toNat = (j + 1 - (sA S x j).toNat) + (l + 1 - (sA S x l).toNat) by omega, rcM_add, ek, show j + 1 - (j + 1 - (sA S x j).toNat) = l + 1 by omega]
      rw [splitq]
      have wo : ∀ o', o' ≠ 1387 → o' ≠ 1388 → rcM q (j + 1 - (sA S x j).toNat) (j + 1) V o' = I o' := fun o' g1 g2 => (rcM_o g1 g2 _ _ _).trans (vo o' g1 g2)
      generalize rcM q (j + 1 - (sA S x j).toNat) (j + 1) V = W at *
      obtain ⟨r1, r2, r3⟩ := ihq l o W (by omega) (by omega) wo (by rw [(p1 l (by omega)).1, v7, if_pos (Or.inr rfl)]) (by rw [(p1 l (by omega)).2, v8, if_neg (by omega), if_pos rfl]) (fun z z0 z1 => by
        rw [(p1 z (by omega)).1, v7, if_neg (by omega)]; exact h0 z (by omega) (by omega))
      generalize rcM q (l + 1 - (sA S x l).toNat) (l + 1) W = X at *
      have kout : X 1387 k = 1 ∧ X 1388 k = o := by
        obtain ⟨a1, a2⟩ := r1 k (by omega)
        obtain ⟨b1, b2⟩ := p1 k (by omega)
        rw [a1, a2, b1, b2, v7, v8, if_neg (by omega), if_neg (by omega), if_neg (by omega)]
        exact ⟨h1, h2⟩
      refine ⟨fun z hz => ?_, fun z z0 z1 => ?_, fun e he => ?_⟩
      · obtain ⟨a1, a2⟩ := r1 z (by omega)
        obtain ⟨b1, b2⟩ := p1 z (by omega)
        rw [a1, a2, b1, b2, v7, v8, if_neg (by omega), if_neg (by omega), if_neg (by omega)]
        exact ⟨rfl, rfl⟩
      · by_cases zk : z = k
        · rw [zk, kout.1, kout.2]
          exact Or.inl ⟨rfl, List.mem_cons_self⟩
        · by_cases zl : z ≤ l
          · rcases r2 z (by omega) zl with ⟨a1, a2⟩ | ⟨a1, a2⟩
            · exact Or.inl ⟨a1, List.mem_cons_of_mem _ (List.mem_append_left _ a2)⟩
            · refine Or.inr ⟨a1, fun v hv => ?_⟩
              rcases List.mem_cons.mp hv with w | w
              · exact zk (congrArg Prod.fst w)
              · rcases List.mem_append.mp w with w | w
                · exact a2 v w
                · have := (p3 _ w).1.1
                  have : sA S x j ≤ z := this
                  omega
          · obtain ⟨a1, a2⟩ := r1 z (by omega)
            rw [a1, a2]
            rcases p2 z (by omega) (by omega) with ⟨b1, b2⟩ | ⟨b1, b2⟩
            · exact Or.inl ⟨b1, List.mem_cons_of_mem _ (List.mem_append_right _ b2)⟩
            · refine Or.inr ⟨b1, fun v hv => ?_⟩
              rcases List.mem_cons.mp hv with w | w
              · exact zk (congrArg Prod.fst w)
              · rcases List.mem_append.mp w with w | w
                · have := (r3 _ w).1.2
                  have : z ≤ l := this
                  omega
                · exact b2 v w
      · rcases List.mem_cons.mp he with w | w
        · rw [w]
          exact ⟨⟨by show sA S x k ≤ (k : Int); omega, Int.le_refl _⟩, kout.1, kout.2⟩
        · rcases List.mem_append.mp w with w | w
          · obtain ⟨⟨a0, a1⟩, a2, a3⟩ := r3 _ w
            exact ⟨⟨by omega, by omega⟩, a2, a3⟩
          · obtain ⟨⟨a0, a1⟩, a2, a3⟩ := p3 _ w
            obtain ⟨b1, b2⟩ := r1 e.1 (by omega)
            rw [b1, b2]
            exact ⟨⟨by omega, by omega⟩, a2, a3⟩
    · by_cases hf2 : isFlt (T 256 (x + k))
      · obtain ⟨j, ek, c7, c6, t7, ea⟩ := h.one hk (by rw [← (h.op (k : Int)).1]; exact dOp_flt hf2)
        rw [(blk_f hi hf2).2.2, t7]
        have rp : rcP q U k = rcO U q k := if_pos ⟨by omega, bI1 (bq.mpr (Or.inr (inq.2.mpr hf2)))⟩
        have ro : rcO U q k = up2 (up2 U 1387 j 1) 1388 j o := by
          unfold rcO
          rw [q6, q7, c7, c6, h2, if_pos rfl]
        rw [rp, ro]
        have arj := sA_rg (S := S) (x := x) (k := j)
        have vo : ∀ o', o' ≠ 1387 → o' ≠ 1388 → up2 (up2 U 1387 j 1) 1388 j o o' = I o' := fun o' g1 g2 => (funext (fun z => (up2_o _ _ _ _ g2).trans (up2_o _ _ _ _ g1))).trans (hU o' g1 g2)
        have v7 : ∀ z : Int, up2 (up2 U 1387 j 1) 1388 j o 1387 z = if z = j then 1 else U 1387 z := fun z => by
          rw [up2_o _ _ _ _ (by decide), up2_if]
        have v8 : ∀ z : Int, up2 (up2 U 1387 j 1) 1388 j o 1388 z = if z = j then o else U 1388 z := fun z => by
          rw [up2_if, up2_o _ _ _ _ (by decide)]
        generalize up2 (up2 U 1387 j 1) 1388 j o = V at *
        obtain ⟨p1, p2, p3⟩ := ihq j o V (by omega) (by omega) vo (by rw [v7, if_pos rfl]) (by rw [v8, if_pos rfl]) (fun z z0 z1 => by
          rw [v7, if_neg (by omega)]; exact h0 z (by omega) (by omega))
        rw [show k - (sA S x k).toNat = j + 1 - (sA S x j).toNat by omega, ek]
        generalize rcM q (j + 1 - (sA S x j).toNat) (j + 1) V = X at *
        rw [← ek]
        have kout : X 1387 k = 1 ∧ X 1388 k = o := by
          obtain ⟨b1, b2⟩ := p1 k (by omega)
          rw [b1, b2, v7, v8, if_neg (by omega), if_neg (by omega)]
          exact ⟨h1, h2⟩
        refine ⟨fun z hz => ?_, fun z z0 z1 => ?_, fun e he => ?_⟩
        · obtain ⟨b1, b2⟩ := p1 z (by omega)
          rw [b1, b2, v7, v8, if_neg (by omega), if_neg (by omega)]
          exact ⟨rfl, rfl⟩
        · by_cases zk : z = k
          · rw [zk, kout.1, kout.2]
            exact Or.inl ⟨rfl, List.mem_cons_self⟩
          · rcases p2 z (by omega) (by omega) with ⟨b1, b2⟩ | ⟨b1, b2⟩
            · exact Or.inl ⟨b1, List.mem_cons_of_mem _ b2⟩
            · refine Or.inr ⟨b1, fun v hv => ?_⟩
              rcases List.mem_cons.mp hv with w | w
              · exact zk (congrArg Prod.fst w)
              · exact b2 v w
        · rcases List.mem_cons.mp he with w | w
          · rw [w]
            exact ⟨⟨by show sA S x k ≤ (k : Int); omega, Int.le_refl _⟩, kout.1, kout.2⟩
          · obtain ⟨⟨a0, a1⟩, a2, a3⟩ := p3 _ w
            exact ⟨⟨by omega, by omega⟩, a2, a3⟩
      · rw [(blk_l hi hf2).2.2]
        have rp : rcP q U k = U := if_neg (fun z => by
          rcases bq.mp (bIn (by rw [z.2]; decide)) with y | y
          · exact hi (inq.1.mp y)
          · exact hf2 (inq.2.mp y))
        rw [rp]
        have idq : ∀ (m hi : Nat), hi ≤ k → (sA S x k).toNat + m ≤ hi → rcM q m hi U = U := by
          intro m
          induction m with
          | zero => exact fun _ _ _ => rfl
          | succ m ihm =>
            intro hi2 y1 y2
            have z0 : rcP q U (hi2 - 1) = U := if_neg (fun z => z.1 (h0 _ (by omega) (by omega)))
            show rcM q m (hi2 - 1) (rcP q U (hi2 - 1)) = U
            rw [z0]
            exact ihm (hi2 - 1) (by omega) (by omega)
        rw [idq _ k (Nat.le_refl _) (by omega)]
        refine ⟨fun z _ => ⟨rfl, rfl⟩, fun z z0 z1 => ?_, fun e he => ?_⟩
        · by_cases zk : z = k
          · rw [zk, h1, h2]
            exact Or.inl ⟨rfl, List.mem_cons_self⟩
          · refine Or.inr ⟨h0 z z0 (by omega), fun v hv => zk (congrArg Prod.fst (List.mem_singleton.mp hv))⟩
        · rw [List.mem_singleton.mp he]
          exact ⟨⟨by show sA S x k ≤ (k : Int); omega, Int.le_refl _⟩, h1, h2⟩
end
