/-! what the reference's prepare asks of a query -/
section
variable {I S T U J : IT} {x Q : Int} {n q top : Nat}
theorem blk_of {T' : IT} (h : ∀ o, (256 ≤ o ∧ o ≤ 260) ∨ (279 ≤ o ∧ o ≤ 281) → T' o = T o) : ∀ f : Nat, blkL T' x f = blkL T x f ∧ blkJ T' x f = blkJ T x f ∧ blkV T' x f = blkV T x f ∧ blkF T' x f = blkF T x f ∧ blkOK T' x f = blkOK T x f := by
  have e6 := h 256 (by omega)
  have e7 := h 257 (by omega)
  have e8 := h 258 (by omega)
  have e9 := h 259 (by omega)
  have l9 := h 279 (by omega)
  have l0 := h 280 (by omega)
  have l1 := h 281 (by omega)
  have mi : mInner T' = mInner T := by
    funext z; unfold mInner; rw [e6, e7]
  intro f
  induction f with
  | zero => exact ⟨rfl, rfl, rfl, rfl, rfl⟩
  | succ f ihq =>
    obtain ⟨a1, a2, a3, a4, a5⟩ := ihq
    refine ⟨?_, ?_, ?_, ?_, ?_⟩ <;> funext k o
    · unfold blkL
      rw [mi, e6, l9, l0, l1, a1]
    · unfold blkJ
      rw [mi, e6, e8, e9, l9, l0, l1, a2]
    · unfold blkV
      rw [mi, e6, l9, l0, l1, a3]
    · unfold blkF
      rw [mi, e6, l9, l0, l1, a4]
    · unfold blkOK
      rw [mi, e6, e7, e8, e9, l9, l0, l1, a5]
theorem blk_ok (h : Qk I S T q x n) (n12 : n ≤ 12) : ∀ (f k : Nat) (o : Int), k < f → k < n → 0 ≤ o → o + wdN S x k ≤ 10 → blkOK T x f k o := by
  intro f
  induction f with
  | zero => intro k o hf; omega
  | succ f ihq =>
    intro k o hf hk h0 h10
    obtain ⟨o1, o2, o3, o4, -⟩ := h.op (k : Int)
    obtain ⟨i1, i2⟩ := h.2.2.1 k hk
    refine ⟨⟨⟨by omega, by omega⟩, h0, by omega⟩, fun hi => ?_, fun hi hf2 => ?_, fun hi hf2 hz => ?_⟩
    · obtain ⟨j, l, ek, c7, c6, t8, t7, lj, ej, ea, t9, c5⟩ := h.two hk hi
      obtain ⟨w1, w2, w3⟩ := wd_two h.1.2 hk (by rw [← o1]; exact hi.1) (by rw [← o2, hi.2]; decide) (i2.symm.trans c7) (i1.symm.trans c6)
      have wl := wd_rg h.1.1 h.1.2 (k := l) (by omega)
      have wj := wd_rg h.1.1 h.1.2 (k := j) (by omega)
      rw [t7, t8, t9, o3, o4]
      exact ⟨⟨⟨by omega, by omega⟩, ⟨by omega, by omega⟩, by omega, by omega⟩, ⟨by omega, by omega⟩, ⟨by omega, by omega⟩, ihq l o (by omega) (by omega) h0 (by omega), ihq j _ (by omega) (by omega) (by omega) (by omega)⟩
    · obtain ⟨j, ek, c7, c6, t7, ea⟩ := h.one hk (by rw [← o1]; exact dOp_flt hf2)
      have w := (wd_flt h.1.2 hk (by rw [← o1]; exact hf2) (i1.symm.trans c6)).1
      rw [t7]
      exact ⟨⟨by omega, by omega⟩, ihq j o (by omega) (by omega) h0 (by omega)⟩
    · rw [o2]
      exact (wd_scan h.1.1 h.1.2 hk (by rw [← o1]; exact hz)).1
/-- how many scans are below a node -/
def wtN (S : IT) (x : Int) (k : Nat) : Nat := ((wsT S x (k + 1)).getD 0 (0, 0)).2
theorem wtt_at (hq : QV S x n) : ∀ m, m ≤ n → ∀ (i : Nat) (r : Int), (rtT S x m)[i]? = some r → ∃ e, (wsT S x m)[i]? = some e ∧ e.2 = wtN S x r.toNat := by
  intro m
  induction m with
  | zero =>
    intro _ i r hyp
    rw [show rtT S x 0 = [] from rfl, List.getElem?_nil] at hyp
    cases hyp
  | succ m ihq =>
    intro hm i r hyp
    obtain ⟨-, exq, hxq⟩ := ws1_shape (col := S 201) (hq.2 m (by omega))
    have e1q : wsT S x (m + 1) = exq :: (wsT S x m).drop (dOp (S 256 (x + m))) := hxq
    have e2q : rtT S x (m + 1) = (m : Int) :: (rtT S x m).drop (dOp (S 256 (x + m))) := rfl
    rw [e2q] at hyp
    cases i with
    | zero =>
      rw [List.getElem?_cons_zero] at hyp
      have erq : (m : Int) = r := Option.some.inj hyp
      refine ⟨exq, by rw [e1q]; rfl, ?_⟩
      rw [← erq, Int.toNat_natCast]
      unfold wtN
      rw [e1q]; rfl
    | succ i =>
      rw [List.getElem?_cons_succ, List.getElem?_drop] at hyp
      obtain ⟨eeq, g1q, g2q⟩ := ihq (by omega) _ r hyp
      exact ⟨eeq, by rw [e1q, List.getElem?_cons_succ, List.getElem?_drop]; exact g1q, g2q⟩
theorem wt_at (hq : QV S x n) {k i : Nat} (hk : k < n) {e : Nat × Nat} {l : Nat} (h : (wsT S x k)[i]? = some e) (hl : (rtT S x k).getD i (-1) = l) : e.2 = wtN S x l := by
  have il : i < (rtT S x k).length := by
    rw [rtT_len hq k (by omega)]; exact (List.getElem?_eq_some_iff.mp h).1
  have g0q := List.getElem?_eq_getElem il
  rw [getD_some g0q] at hl
  obtain ⟨ezq, z1q, z2q⟩ := wtt_at hq k (by omega) i _ g0q
  rw [h] at z1q
  rw [Option.some.inj z1q, z2q, hl, Int.toNat_natCast]
theorem wt_top {k : Nat} {e : Nat × Nat} {rs : WST} (h : ws1 (S 201) (S 256 (x + k)) (S 257 (x + k)) (wsT S x k) = e :: rs) : wtN S x k = e.2 := by
  unfold wtN
  rw [show wsT S x (k + 1) = ws1 (S 201) (S 256 (x + k)) (S 257 (x + k)) (wsT S x k) from rfl, h]; rfl
theorem wt_two (hq : QV S x n) {k j l : Nat} (hk : k < n) (h4 : S 256 (x + k) = 4) (hj : nd2 S x k = j) (hl : nd1 S x k = l) : wtN S x k = wtN S x l + wtN S x j := by
  obtain ⟨eh, dh, rs, est, -⟩ := (hq.2 k hk).2.2.2.1 h4
  have d : dOp (S 256 (x + k)) = 2 := by rw [h4]; rfl
  unfold nd2 at hj
  unfold nd1 at hl
  rw [if_pos d] at hj
  rw [if_neg (by omega), if_pos d] at hl
  have a1 := wt_at hq hk (i := 0) (e := eh) (by rw [est]; rfl) hj
  have a2 := wt_at hq hk (i := 1) (e := dh) (by rw [est]; rfl) hl
  have a3 := wt_top (S := S) (x := x) (k := k) (by rw [est]; exact ws1_j h4)
  rw [a3, ← a1, ← a2]
theorem wt_flt (hq : QV S x n) {k j : Nat} (hk : k < n) (h : isFlt (S 256 (x + k))) (hj : nd1 S x k = j) : wtN S x k = wtN S x j := by
  unfold isFlt at h
  obtain ⟨eh, rs, est, gI⟩ := (hq.2 k hk).2.2.1 (by omega) (by omega)
  have d : dOp (S 256 (x + k)) = 1 := dOp_flt h
  unfold nd1 at hj
  rw [if_neg (by omega), if_neg (by omega)] at hj
  have a1 := wt_at hq hk (i := 0) (e := eh) (by rw [est]; rfl) hj
  have a3 := wt_top (S := S) (x := x) (k := k) (by rw [est]; exact ws1_f (by omega) (by omega))
  rw [a3, ← a1]
theorem wt_rg (hs : SSch S) (hq : QV S x n) {k : Nat} (hk : k < n) : 1 ≤ wtN S x k ∧ wtN S x k ≤ 3 := by
  obtain ⟨-, exq, hxq⟩ := ws1_shape (col := S 201) (hq.2 k hk)
  have e1q : wsT S x (k + 1) = exq :: (wsT S x k).drop (dOp (S 256 (x + k))) := hxq
  obtain ⟨ok, o3⟩ := wsT_ok hs hq (k + 1) (by omega)
  rw [e1q] at ok o3
  rw [wt_top hxq]
  have : wsZ (exq :: (wsT S x k).drop (dOp (S 256 (x + k)))) = exq.2 + wsZ ((wsT S x k).drop (dOp (S 256 (x + k)))) := rfl
  exact ⟨ok.1.2, by omega⟩
theorem blk_len (h : Qk I S T q x n) : ∀ (f k : Nat) (o : Int), k < f → k < n → (1 ≤ (blkL T x f k o).length ∧ (blkL T x f k o).length ≤ wtN S x k) ∧ (blkJ T x f k o).length + 1 = (blkL T x f k o).length ∧ (mInner T (x + k) → 2 ≤ (blkL T x f k o).length) := by
  intro f
  induction f with
  | zero => intro k o hf; omega
  | succ f ihq =>
    intro k o hf hk
    obtain ⟨o1, o2, -⟩ := h.op (k : Int)
    obtain ⟨i1, i2⟩ := h.2.2.1 k hk
    by_cases hi : mInner T (x + k)
    · obtain ⟨j, l, ek, c7, c6, t8, t7, lj, ej, ea, t9, c5⟩ := h.two hk hi
      have w := wt_two h.1.2 hk (by rw [← o1]; exact hi.1) (i2.symm.trans c7) (i1.symm.trans c6)
      obtain ⟨a1, a2, -⟩ := ihq l o (by omega) (by omega)
      obtain ⟨b1, b2, -⟩ := ihq j (o + wdN S x l) (by omega) (by omega)
      rw [(blk_i hi).1, (blk_i hi).2.1, t7, t8, t9, List.length_append, List.length_cons, List.length_append]
      exact ⟨⟨by omega, by omega⟩, by omega, fun _ => by omega⟩
    · by_cases hf2 : isFlt (T 256 (x + k))
      · obtain ⟨j, ek, c7, c6, t7, ea⟩ := h.one hk (by rw [← o1]; exact dOp_flt hf2)
        have w := wt_flt h.1.2 hk (by rw [← o1]; exact hf2) (i1.symm.trans c6)
        obtain ⟨a1, a2, -⟩ := ihq j o (by omega) (by omega)
        rw [(blk_f hi hf2).1, (blk_f hi hf2).2.1, t7]
        exact ⟨⟨a1.1, by omega⟩, a2, fun z => (hi z).elim⟩
      · have w := wt_rg h.1.1 h.1.2 hk
        rw [(blk_l hi hf2).1, (blk_l hi hf2).2.1]
        exact ⟨⟨Nat.le_refl _, w.1⟩, rfl, fun z => (hi z).elim⟩
/-- class and reference begin at the same join -/
theorem first_eq (h : Qk I S T q x n) : ∀ (f k : Nat), k < f → k < n → fjN T x f k = ((tbT I q k : Nat) : Int) := by
  intro f
  induction f with
  | zero => intro k hf; omega
  | succ f ihq =>
    intro k hf hk
    obtain ⟨o1, o2, -⟩ := h.op (k : Int)
    obtain ⟨⟨k1, -⟩, -⟩ := h.2.1.2 k hk
    have pq : quPas I q k ↔ mPass (T 256 (x + k)) := by
      unfold quPas mPass quFlt
      rw [k1, o1]
    by_cases hp : mPass (T 256 (x + k))
    · have d1 : dOp (S 256 (x + k)) = 1 := by
        rw [o1] at hp
        unfold mPass at hp
        unfold dOp
        rw [if_neg (by omega), if_neg (by omega)]
      obtain ⟨j, ek, c7, c6, t7, ea⟩ := h.one hk d1
      rw [fjN_go hp, t7, ihq j (by omega) (by omega)]
      subst ek
      rw [tbT_yes (pq.mpr hp)]
    · rw [fjN_end hp]
      cases k with
      | zero => rfl
      | succ k => rw [tbT_no (fun z => hp (pq.mp z))]
theorem top_eq (h : Qk I S T q (12 * (Q + 1)) n) (hn : 1 ≤ n) : mFirstJ T Q n = tpR I q (n - 1) ∧ ((tpR I q (n - 1) ≠ -1) → ∃ top : Nat, tpR I q (n - 1) = top ∧ top < n ∧ mInner T (12 * (Q + 1) + (top : Int))) := by
  have fe := first_eq h n (n - 1) (by omega) (by omega)
  have tl := tbT_le (I := I) (q := q) (n - 1)
  have inq := (h.inn (k := tbT I q (n - 1)) (by omega)).1
  unfold mFirstJ tpR
  rw [show ((n : Int) - 1) = ((n - 1 : Nat) : Int) by omega, fe]
  by_cases y : mInner T (12 * (Q + 1) + ((tbT I q (n - 1) : Nat) : Int))
  · rw [if_pos (bI1 y), if_pos (bI1 (inq.mpr y))]
    exact ⟨rfl, fun _ => ⟨_, rfl, by omega, y⟩⟩
  · rw [if_neg (by rw [bI0 y]; decide), if_neg (by rw [bI0 (fun z => y (inq.mp z))]; decide)]
    exact ⟨rfl, fun z => (z rfl).elim⟩
end
