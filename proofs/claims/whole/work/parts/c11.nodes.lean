/-! the nodes of a query: what stands below them -/
section
variable {I S T : IT} {x : Int} {n qn : Nat}
theorem dOp_cases (op : Int) : dOp op = 0 ∨ dOp op = 1 ∨ dOp op = 2 := by
  unfold dOp
  split
  · exact Or.inl rfl
  · split
    · exact Or.inr (Or.inr rfl)
    · exact Or.inr (Or.inl rfl)
theorem rtT_tail : ∀ (m i : Nat) (r : Int), (rtT S x m)[i]? = some r → (0 ≤ r ∧ r < m) ∧ (rtT S x m).drop (i + 1) = (rtT S x r.toNat).drop (dOp (S 256 (x + r))) := by
  intro m
  induction m with
  | zero =>
    intro i r hyp
    rw [show rtT S x 0 = [] from rfl, List.getElem?_nil] at hyp
    cases hyp
  | succ m ihq =>
    intro i r hyp
    have eqr : rtT S x (m + 1) = (m : Int) :: (rtT S x m).drop (dOp (S 256 (x + m))) := rfl
    rw [eqr] at hyp ⊢
    cases i with
    | zero =>
      rw [List.getElem?_cons_zero] at hyp
      have erq : (m : Int) = r := Option.some.inj hyp
      rw [← erq, Int.toNat_natCast]
      exact ⟨⟨by omega, by omega⟩, rfl⟩
    | succ i =>
      rw [List.getElem?_cons_succ, List.getElem?_drop] at hyp
      obtain ⟨g1q, g2q⟩ := ihq _ r hyp
      refine ⟨by omega, ?_⟩
      show ((rtT S x m).drop (dOp (S 256 (x + m)))).drop (i + 1) = _
      rw [List.drop_drop, ← g2q]
      rfl
theorem rtT_len (hq : QV S x n) : ∀ k, k ≤ n → (rtT S x k).length = (wsT S x k).length := by
  intro k
  induction k with
  | zero => exact fun _ => rfl
  | succ k ihq =>
    intro hk
    obtain ⟨-, exq, hxq⟩ := ws1_shape (col := S 201) (hq.2 k (by omega))
    have e1q : wsT S x (k + 1) = exq :: (wsT S x k).drop (dOp (S 256 (x + k))) := hxq
    have e2q : rtT S x (k + 1) = (k : Int) :: (rtT S x k).drop (dOp (S 256 (x + k))) := rfl
    rw [e1q, e2q, List.length_cons, List.length_cons, List.length_drop, List.length_drop, ihq (by omega)]
theorem rtT_dOp (hq : QV S x n) {k : Nat} (hk : k < n) : dOp (S 256 (x + k)) ≤ (rtT S x k).length := by
  rw [rtT_len hq k (by omega)]
  exact (ws1_shape (col := S 201) (hq.2 k hk)).1
/-- where the operators below a node begin -/
def sA (S : IT) (x : Int) (k : Nat) : Int := ((rtT S x k).drop (dOp (S 256 (x + k)))).getD 0 (-1) + 1
theorem getD_some {l : List Int} {i : Nat} {r : Int} (h : l[i]? = some r) (d : Int) : l.getD i d = r := by
  rw [List.getD_eq_getElem?_getD, h]; rfl
theorem sA_rg {k : Nat} : 0 ≤ sA S x k ∧ sA S x k ≤ k := by
  unfold sA
  cases hyp : ((rtT S x k).drop (dOp (S 256 (x + k))))[0]? with
  | none =>
    rw [List.getD_eq_getElem?_getD, hyp]
    exact ⟨by show (0 : Int) ≤ -1 + 1; omega, by show (-1 : Int) + 1 ≤ k; omega⟩
  | some r =>
    rw [getD_some hyp]
    rw [List.getElem?_drop] at hyp
    have := (rtT_tail k _ r hyp).1
    omega
theorem nd_leaf {k : Nat} (h : dOp (S 256 (x + k)) = 0) : nd1 S x k = -1 ∧ nd2 S x k = -1 ∧ sA S x k = k := by
  refine ⟨if_pos h, if_neg (by omega), ?_⟩
  unfold sA
  rw [h]
  cases k with
  | zero => rfl
  | succ k =>
    show ((k : Int)) + 1 = ((k + 1 : Nat) : Int)
    omega
theorem nd_one (hq : QV S x n) {k : Nat} (hk : k < n) (h : dOp (S 256 (x + k)) = 1) : ∃ j : Nat, k = j + 1 ∧ nd1 S x k = j ∧ nd2 S x k = -1 ∧ sA S x k = sA S x j := by
  have len := rtT_dOp hq hk
  rw [h] at len
  cases k with
  | zero => exact absurd len (by show ¬ 1 ≤ 0; omega)
  | succ j =>
    refine ⟨j, rfl, ?_, if_neg (by omega), ?_⟩
    · unfold nd1
      rw [if_neg (by omega), if_neg (by omega)]
      rfl
    · unfold sA
      rw [h]
      rfl
theorem nd_two (hq : QV S x n) {k : Nat} (hk : k < n) (h : dOp (S 256 (x + k)) = 2) : ∃ j l : Nat, k = j + 1 ∧ nd2 S x k = j ∧ nd1 S x k = l ∧ l < j ∧ (l : Int) + 1 = sA S x j ∧ sA S x k = sA S x l := by
  have len := rtT_dOp hq hk
  rw [h] at len
  cases k with
  | zero => exact absurd len (by show ¬ 2 ≤ 0; omega)
  | succ j =>
    obtain ⟨r, hr⟩ : ∃ r, (rtT S x (j + 1))[1]? = some r := ⟨_, List.getElem?_eq_getElem (by omega)⟩
    obtain ⟨⟨r0, r1⟩, r2⟩ := rtT_tail (j + 1) 1 r hr
    have e2q : rtT S x (j + 1) = (j : Int) :: (rtT S x j).drop (dOp (S 256 (x + j))) := rfl
    have hr2 := hr
    rw [e2q, List.getElem?_cons_succ] at hr2
    have r3 : r < j := by
      rw [List.getElem?_drop] at hr2
      exact (rtT_tail j _ r hr2).1.2
    refine ⟨j, r.toNat, rfl, ?_, ?_, by omega, ?_, ?_⟩
    · unfold nd2
      rw [if_pos h]
      rfl
    · unfold nd1
      rw [if_neg (by omega), if_pos h, getD_some hr]
      omega
    · unfold sA
      rw [getD_some hr2]
      omega
    · unfold sA
      rw [h, show (2 : Nat) = 1 + 1 from rfl, r2, show ((r.toNat : Nat) : Int) = r by omega]
/-- the width of what a node gives -/
def wdN (S : IT) (x : Int) (k : Nat) : Nat := ((wsT S x (k + 1)).getD 0 (0, 0)).1
theorem wst_at (hq : QV S x n) : ∀ m, m ≤ n → ∀ (i : Nat) (r : Int), (rtT S x m)[i]? = some r → ∃ e, (wsT S x m)[i]? = some e ∧ e.1 = wdN S x r.toNat := by
  intro m
  induction m with
  | zero =>
    intro _ i r hyp
    rw [show rtT S x 0 = [] from rfl, List.getElem?_nil] at hyp
    cases hyp
  | succ m ihq =>
    intro hm i r hyp
    obtain ⟨-, exq, hxq⟩ := ws1_shape (col := S 201) (hq.2 m (by omega))
    have e1q : wsT S x (m + 1) = exq :: (wsT S x m).drop (dOp (S 256 (x + m))) := hxq
    have e2q : rtT S x (m + 1) = (m : Int) :: (rtT S x m).drop (dOp (S 256 (x + m))) := rfl
    rw [e2q] at hyp
    cases i with
    | zero =>
      rw [List.getElem?_cons_zero] at hyp
      have erq : (m : Int) = r := Option.some.inj hyp
      refine ⟨exq, by rw [e1q]; rfl, ?_⟩
      rw [← erq, Int.toNat_natCast]
      unfold wdN
      rw [e1q]; rfl
    | succ i =>
      rw [List.getElem?_cons_succ, List.getElem?_drop] at hyp
      obtain ⟨eeq, g1q, g2q⟩ := ihq (by omega) _ r hyp
      exact ⟨eeq, by rw [e1q, List.getElem?_cons_succ, List.getElem?_drop]; exact g1q, g2q⟩
theorem nRest_drop (op : Int) (st : NST) : nRest op st = st.drop (dOp op) := by
  unfold nRest dOp
  by_cases e0 : op = 0
  · rw [if_neg (by omega), if_pos e0, if_pos e0]; rfl
  · rw [if_neg e0, if_neg e0]
    by_cases e4 : op = 4 ∨ op = 7
    · rw [if_pos e4, if_pos e4]
      cases st with
      | nil => rfl
      | cons a st => cases st <;> rfl
    · rw [if_neg e4, if_neg e4]
      cases st <;> rfl
theorem nsW_eq (hs : SSch S) (hq : QV S x n) : ∀ k, k ≤ n → (nsW S x k).length = (rtT S x k).length ∧ ∀ (i : Nat) (r : Int), (rtT S x k)[i]? = some r → (nsW S x k)[i]? = some (r, (wdN S x r.toNat : Int)) := by
  intro k
  induction k with
  | zero =>
    refine fun _ => ⟨rfl, fun i r hyp => ?_⟩
    rw [show rtT S x 0 = [] from rfl, List.getElem?_nil] at hyp
    cases hyp
  | succ k ihq =>
    intro hk
    obtain ⟨lenq, atq⟩ := ihq (by omega)
    have e1q : nsW S x (k + 1) = ((k : Int), nWid S (x + k) (nsW S x k)) :: (nsW S x k).drop (dOp (S 256 (x + k))) := by
      show ((k : Int), nWid S (x + k) (nsW S x k)) :: nRest (S 256 (x + k)) (nsW S x k) = _
      rw [nRest_drop]
    have e2q : rtT S x (k + 1) = (k : Int) :: (rtT S x k).drop (dOp (S 256 (x + k))) := rfl
    have wq := wst_at hq k (by omega)
    have lq := rtT_len hq k (by omega)
    have ov := hq.2 k (by omega)
    have hdq : ∀ (i : Nat) (eh : Nat × Nat), (wsT S x k)[i]? = some eh → ∃ r, (nsW S x k)[i]? = some (r, (eh.1 : Int)) := fun i eh hyp => by
      have il : i < (rtT S x k).length := by
        rw [lq]; exact (List.getElem?_eq_some_iff.mp hyp).1
      have g0q := List.getElem?_eq_getElem il
      obtain ⟨ezq, z1q, z2q⟩ := wq i _ g0q
      rw [hyp] at z1q
      rw [Option.some.inj z1q, z2q]
      exact ⟨_, atq i _ g0q⟩
    have nAq : ∀ eh rs, wsT S x k = eh :: rs → (nA (nsW S x k)).2 = (eh.1 : Int) := fun eh rs hyp => by
      obtain ⟨r, hr⟩ := hdq 0 eh (by rw [hyp]; rfl)
      unfold nA
      cases hn : nsW S x k with
      | nil => rw [hn] at hr; cases hr
      | cons a st => rw [hn] at hr; cases hr; rfl
    have nBq : ∀ eh dh rs, wsT S x k = eh :: dh :: rs → (nB (nsW S x k)).2 = (dh.1 : Int) := fun eh dh rs hyp => by
      obtain ⟨r, hr⟩ := hdq 1 dh (by rw [hyp]; rfl)
      unfold nB
      cases hn : nsW S x k with
      | nil => rw [hn] at hr; cases hr
      | cons a st =>
        cases st with
        | nil => rw [hn] at hr; cases hr
        | cons b st => rw [hn] at hr; cases hr; rfl
    have widq : nWid S (x + k) (nsW S x k) = (wdN S x k : Int) := by
      have wk0 := (wsT_ok hs hq k (by omega)).1
      have wde : ∀ eh rs, ws1 (S 201) (S 256 (x + k)) (S 257 (x + k)) (wsT S x k) = eh :: rs → wdN S x k = eh.1 := fun eh rs hyp => by
        unfold wdN
        rw [show wsT S x (k + 1) = ws1 (S 201) (S 256 (x + k)) (S 257 (x + k)) (wsT S x k) from rfl, hyp]; rfl
      obtain ⟨v0, v1, v2, v4, v5, v6, v7⟩ := ov
      unfold nWid
      by_cases e0 : S 256 (x + k) = 0
      · rw [if_neg (by omega), if_neg (by omega), if_pos e0, wde _ _ (ws1_0 e0)]
        have := (hs.2.1 _ (v1 e0).1.1 (v1 e0).1.2).1
        show S 201 (S 257 (x + k)) = ((S 201 (S 257 (x + k))).toNat : Int)
        omega
      · by_cases e3 : S 256 (x + k) ≤ 3
        · obtain ⟨eh, rs, est, -⟩ := v2 e0 e3
          rw [if_neg (by omega), if_neg (by omega), if_neg e0, if_neg (by omega), if_neg (by omega), nAq _ _ est, wde eh rs (by rw [est]; exact ws1_f e0 e3)]
        · by_cases e4 : S 256 (x + k) = 4
          · obtain ⟨eh, dh, rs, est, -⟩ := v4 e4
            rw [if_neg (by omega), if_neg (by omega), if_neg e0, if_pos e4, nAq _ _ est, nBq _ _ _ est, wde _ _ (by rw [est]; exact ws1_j e4)]
            by_cases e2 : S 257 (x + k) ≤ 2
            · rw [if_pos e2, if_neg (by omega)]; omega
            · rw [if_neg e2, if_pos (by omega)]
          · by_cases e5 : S 256 (x + k) = 5
            · obtain ⟨eh, rs, est, a0, a1⟩ := v5 e5
              rw [if_pos e5, wde _ _ (by rw [est]; exact ws1_k e5)]
              rw [est] at wk0
              exact mCnt_31 (by omega) a1 (by have := wk0.1.1.2; omega)
            · by_cases e6 : S 256 (x + k) = 6
              · obtain ⟨eh, rs, est, -⟩ := v6 e6
                rw [if_neg e5, if_pos e6, wde _ _ (by rw [est]; exact ws1_g e6)]
                rfl
              · have e7 : S 256 (x + k) = 7 := by omega
                obtain ⟨eh, dh, rs, est, ede⟩ := v7 e7
                rw [if_neg e5, if_neg e6, if_neg e0, if_neg e4, if_pos e7, nBq _ _ _ est, wde _ _ (by rw [est]; exact ws1_c e7)]
                show (dh.1 : Int) = (eh.1 : Int)
                omega
    rw [e1q, e2q]
    refine ⟨by rw [List.length_cons, List.length_cons, List.length_drop, List.length_drop, lenq], fun i r hyp => ?_⟩
    cases i with
    | zero =>
      rw [List.getElem?_cons_zero] at hyp ⊢
      have erq : (k : Int) = r := Option.some.inj hyp
      rw [← erq, widq, Int.toNat_natCast]
    | succ i =>
      rw [List.getElem?_cons_succ, List.getElem?_drop] at hyp ⊢
      exact atq _ r hyp
end
