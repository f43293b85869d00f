/-! queries in class and reference, as they are built -/
section
variable {I S I' S' : IT} {q n : Nat} {x x' : Int}
def dOp (op : Int) : Nat := if op = 0 then 0 else if op = 4 ∨ op = 7 then 2 else 1
/-- the operators whose results stand on the stack -/
def rt1 (op : Int) (k : Nat) (st : List Int) : List Int := (k : Int) :: st.drop (dOp op)
def rtT (S : IT) (x : Int) : Nat → List Int
  | 0 => []
  | k + 1 => rt1 (S 256 (x + k)) k (rtT S x k)
/-- what an operator takes -/
def nd1 (S : IT) (x : Int) (k : Nat) : Int := if dOp (S 256 (x + k)) = 0 then -1 else if dOp (S 256 (x + k)) = 2 then (rtT S x k).getD 1 (-1) else (rtT S x k).getD 0 (-1)
def nd2 (S : IT) (x : Int) (k : Nat) : Int := if dOp (S 256 (x + k)) = 2 then (rtT S x k).getD 0 (-1) else -1
def QRn (I S : IT) (qn : Nat) (x : Int) (n : Nat) : Prop := ∀ k : Nat, k < n → I (qn + 6) (k : Int) = nd1 S x k ∧ I (qn + 7) (k : Int) = nd2 S x k
theorem wsT_of : ∀ k : Nat, (∀ j : Nat, j < k → S' 256 (x' + j) = S 256 (x + j) ∧ S' 257 (x' + j) = S 257 (x + j) ∧ (S 256 (x + j) = 0 → S' 201 (S 257 (x + j)) = S 201 (S 257 (x + j)))) → wsT S' x' k = wsT S x k := by
  intro k
  induction k with
  | zero => intro _; rfl
  | succ k ih =>
    intro h
    obtain ⟨h1, h2, h3⟩ := h k (by omega)
    show ws1 (S' 201) (S' 256 (x' + k)) (S' 257 (x' + k)) (wsT S' x' k) = ws1 (S 201) (S 256 (x + k)) (S 257 (x + k)) (wsT S x k)
    rw [ih (fun j hj => h j (by omega)), h1, h2]
    by_cases e : S 256 (x + k) = 0
    · rw [ws1_0 e, ws1_0 e, h3 e]
    · unfold ws1
      rw [if_neg e, if_neg e]
theorem rtT_of : ∀ k : Nat, (∀ j : Nat, j < k → S' 256 (x' + j) = S 256 (x + j)) → rtT S' x' k = rtT S x k := by
  intro k
  induction k with
  | zero => intro _; rfl
  | succ k ih =>
    intro h
    show rt1 (S' 256 (x' + k)) k (rtT S' x' k) = rt1 (S 256 (x + k)) k (rtT S x k)
    rw [ih (fun j hj => h j (by omega)), h k (by omega)]
theorem opV.of {op A B C : Int} {st : WST} (h : opV S op A B C st) (h0 : S 100 0 ≤ S' 100 0) : opV S' op A B C st := ⟨h.1, fun e => ⟨⟨(h.2.1 e).1.1, by have := (h.2.1 e).1.2; omega⟩, (h.2.1 e).2⟩, h.2.2.1, h.2.2.2⟩
/-- the operators from x on are the same as those of S from x' on -/
def OpSame (S' S : IT) (x' x : Int) (n : Nat) : Prop := ∀ j : Nat, j < n → S' 256 (x' + j) = S 256 (x + j) ∧ S' 257 (x' + j) = S 257 (x + j) ∧ S' 258 (x' + j) = S 258 (x + j) ∧ S' 259 (x' + j) = S 259 (x + j) ∧ S' 260 (x' + j) = S 260 (x + j)
theorem OpSame.ws (h : OpSame S' S x' x n) (hq : QV S x n) (h2 : ∀ t, 0 ≤ t → t < S 100 0 → S' 201 t = S 201 t) : ∀ k : Nat, k ≤ n → wsT S' x' k = wsT S x k := fun k hk => wsT_of k (fun j hj => ⟨(h j (by omega)).1, (h j (by omega)).2.1, fun e => by
  have := (hq.2 j (by omega)).2.1 e
  exact h2 _ this.1.1 this.1.2⟩)
theorem OpSame.rt (h : OpSame S' S x' x n) : ∀ k : Nat, k ≤ n → rtT S' x' k = rtT S x k := fun k hk => rtT_of k (fun j hj => (h j (by omega)).1)
theorem OpSame.qv (h : OpSame S' S x' x n) (hq : QV S x n) (h2 : ∀ t, 0 ≤ t → t < S 100 0 → S' 201 t = S 201 t) (h0 : S 100 0 ≤ S' 100 0) : QV S' x' n := ⟨hq.1, fun k hk => by
  obtain ⟨a1, a2, a3, a4, a5⟩ := h k hk
  rw [a1, a2, a3, a4, h.ws hq h2 k (by omega)]
  exact (hq.2 k hk).of h0⟩
/-- the class's numbers of a query are the same -/
def QuSame (I' I : IT) (q : Nat) (n : Nat) : Prop := I' q 0 = I q 0 ∧ ∀ k : Nat, k < n → (I' (q + 3) (k : Int) = I (q + 3) (k : Int) ∧ I' (q + 5) (k : Int) = I (q + 5) (k : Int) ∧ I' (q + 6) (k : Int) = I (q + 6) (k : Int) ∧ I' (q + 7) (k : Int) = I (q + 7) (k : Int)) ∧ ∀ j : Int, 0 ≤ j → j < 4 → I' (q + 4) ((k : Int) * 4 + j) = I (q + 4) ((k : Int) * 4 + j)
theorem QRe.of (h : QRe I S q x n) (hI : QuSame I' I q n) (hS : OpSame S' S x' x n) (hq : QV S x n) (h2 : ∀ t, 0 ≤ t → t < S 100 0 → S' 201 t = S 201 t) : QRe I' S' q x' n := by
  refine ⟨hI.1.trans h.1, fun k hk => ?_⟩
  obtain ⟨a1, a2, a3, a4, a5⟩ := hS k hk
  obtain ⟨⟨b1, b2, -⟩, b3⟩ := hI.2 k hk
  obtain ⟨⟨c1, c2, c3⟩, c4, c5, c6, c7⟩ := h.2 k hk
  rw [a1, a2, a3, a4, a5, b1, b2, b3 0 (by decide) (by decide), b3 1 (by decide) (by decide), b3 2 (by decide) (by decide), b3 3 (by decide) (by decide), hS.ws hq h2 (k + 1) hk]
  exact ⟨⟨c1, c2, c3⟩, c4, c5, c6, c7⟩
theorem QRn.of (h : QRn I S q x n) (hI : QuSame I' I q n) (hS : OpSame S' S x' x n) : QRn I' S' q x' n := by
  intro k hk
  obtain ⟨⟨-, -, b1, b2⟩, -⟩ := hI.2 k hk
  unfold nd1 nd2
  rw [b1, b2, (hS k hk).1, hS.rt k (by omega)]
  exact h k hk
theorem ws1_shape {col : Int → Int} {op A B C : Int} {st : WST} (hv : opV S op A B C st) : dOp op ≤ st.length ∧ ∃ e, ws1 col op A st = e :: st.drop (dOp op) := by
  obtain ⟨v0, v1, v2, v4, v5, v6, v7⟩ := hv
  unfold dOp
  by_cases e0 : op = 0
  · rw [if_pos e0, ws1_0 e0]; exact ⟨Nat.zero_le _, _, rfl⟩
  · rw [if_neg e0]
    by_cases e3 : op ≤ 3
    · obtain ⟨e, rest, rfl, -⟩ := v2 e0 e3
      rw [if_neg (by omega), ws1_f e0 e3]; exact ⟨Nat.succ_le_succ (Nat.zero_le _), _, rfl⟩
    · by_cases e4 : op = 4
      · obtain ⟨e, d, rest, rfl, -⟩ := v4 e4
        rw [if_pos (Or.inl e4), ws1_j e4]; exact ⟨Nat.succ_le_succ (Nat.succ_le_succ (Nat.zero_le _)), _, rfl⟩
      · by_cases e5 : op = 5
        · obtain ⟨e, rest, rfl, -⟩ := v5 e5
          rw [if_neg (by omega), ws1_k e5]; exact ⟨Nat.succ_le_succ (Nat.zero_le _), _, rfl⟩
        · by_cases e6 : op = 6
          · obtain ⟨e, rest, rfl, -⟩ := v6 e6
            rw [if_neg (by omega), ws1_g e6]; exact ⟨Nat.succ_le_succ (Nat.zero_le _), _, rfl⟩
          · have e7 : op = 7 := by omega
            obtain ⟨e, d, rest, rfl, -⟩ := v7 e7
            rw [if_pos (Or.inr e7), ws1_c e7]; exact ⟨Nat.succ_le_succ (Nat.succ_le_succ (Nat.zero_le _)), _, rfl⟩
theorem ws1_sum {col : Int → Int} {op A B C : Int} {st : WST} (hv : opV S op A B C st) : wsZ (ws1 col op A st) = wsZ st + (if op = 0 then 1 else 0) := by
  obtain ⟨v0, v1, v2, v4, v5, v6, v7⟩ := hv
  by_cases e0 : op = 0
  · rw [if_pos e0, ws1_0 e0]; show 1 + wsZ st = _; omega
  · rw [if_neg e0]
    by_cases e3 : op ≤ 3
    · obtain ⟨e, rest, rfl, -⟩ := v2 e0 e3
      rw [ws1_f e0 e3]; rfl
    · by_cases e4 : op = 4
      · obtain ⟨e, d, rest, rfl, -⟩ := v4 e4
        rw [ws1_j e4]; show d.2 + e.2 + wsZ rest = e.2 + (d.2 + wsZ rest) + 0; omega
      · by_cases e5 : op = 5
        · obtain ⟨e, rest, rfl, -⟩ := v5 e5
          rw [ws1_k e5]; rfl
        · by_cases e6 : op = 6
          · obtain ⟨e, rest, rfl, -⟩ := v6 e6
            rw [ws1_g e6]; rfl
          · have e7 : op = 7 := by omega
            obtain ⟨e, d, rest, rfl, -⟩ := v7 e7
            rw [ws1_c e7]; show d.2 + e.2 + wsZ rest = e.2 + (d.2 + wsZ rest) + 0; omega
/-- all queries that there are -/
def QsR (I S : IT) (nq : Nat) : Prop := ∀ j : Nat, j < nq → ∃ n w c, (S 262 j = ((n : Nat) : Int) ∧ 1 ≤ n) ∧ QV S (12 * ((j : Int) + 1)) n ∧ wsT S (12 * ((j : Int) + 1)) n = [(w, c)] ∧ QRe I S (qX j) (12 * ((j : Int) + 1)) n ∧ QRn I S (qX j) (12 * ((j : Int) + 1)) n
theorem QsR.of {nq : Nat} (h : QsR I S nq) (hI : ∀ j : Nat, j < nq → QuSame I' I (qX j) 12) (hS : ∀ o k, 256 ≤ o → o ≤ 262 → (o ≠ 262 ∧ 12 ≤ k ∧ k < 12 * ((nq : Int) + 1)) ∨ (o = 262 ∧ k < nq) → S' o k = S o k) (h2 : ∀ t, 0 ≤ t → t < S 100 0 → S' 201 t = S 201 t) (h0 : S 100 0 ≤ S' 100 0) : QsR I' S' nq := by
  intro j hj
  obtain ⟨n, w, c, ⟨a1, a2⟩, a3, a4, a5, a6⟩ := h j hj
  have n12 := a3.1
  have sm : OpSame S' S (12 * ((j : Int) + 1)) (12 * ((j : Int) + 1)) n := fun i hi => ⟨hS 256 _ (by decide) (by decide) (Or.inl ⟨by decide, by omega, by omega⟩), hS 257 _ (by decide) (by decide) (Or.inl ⟨by decide, by omega, by omega⟩), hS 258 _ (by decide) (by decide) (Or.inl ⟨by decide, by omega, by omega⟩), hS 259 _ (by decide) (by decide) (Or.inl ⟨by decide, by omega, by omega⟩), hS 260 _ (by decide) (by decide) (Or.inl ⟨by decide, by omega, by omega⟩)⟩
  have su : QuSame I' I (qX j) n := ⟨(hI j hj).1, fun k hk => (hI j hj).2 k (by omega)⟩
  exact ⟨n, w, c, ⟨(hS 262 j (by decide) (by decide) (Or.inr ⟨rfl, by omega⟩)).trans a1, a2⟩, sm.qv a3 h2 h0, (sm.ws a3 h2 n (Nat.le_refl _)).trans a4, a5.of su sm a3 h2, a6.of su sm⟩
/-- what is being built -/
def TrR (I S : IT) (q n : Nat) : Prop :=
  (S 100 52 = n ∧ I q 0 = n ∧ I q 1 = S 100 55 ∧ I q 7 = S 100 51) ∧ QV S 0 n ∧ (QRe I S q 0 n ∧ QRn I S q 0 n) ∧
  (S 100 51 = (wsT S 0 n).length ∧ S 100 55 = wsZ (wsT S 0 n)) ∧ (rtT S 0 n).length = (wsT S 0 n).length ∧
  (∀ (j : Nat) e, (wsT S 0 n)[j]? = some e → S 254 (S 100 51 - 1 - j) = e.1) ∧
  (∀ (j : Nat) r, (rtT S 0 n)[j]? = some r → I (q + 9) (S 100 51 - 1 - j) = r ∧ (0 ≤ r ∧ r < n) ∧ ∀ e, (wsT S 0 n)[j]? = some e → I (q + 5) r = e.1) ∧
  (∀ j, 0 ≤ I (q + 9) j ∧ I (q + 9) j < 12) ∧ ∀ k, 0 ≤ S 254 k ∧ S 254 k ≤ 10
theorem TrR.wid (h : TrR I S q n) (hs : SSch S) : ∀ (j : Nat) e, (wsT S 0 n)[j]? = some e → S 254 (S 100 51 - 1 - j) = e.1 ∧ 1 ≤ e.1 ∧ e.1 ≤ 10 := by
  intro j e he
  refine ⟨h.2.2.2.2.2.1 j e he, ?_⟩
  have g := (wsT_ok hs h.2.1 n (Nat.le_refl _)).1
  have m := List.mem_of_getElem? he
  revert g m
  generalize wsT S 0 n = st
  intro g m
  induction st with
  | nil => cases m
  | cons a st ih =>
    rcases List.mem_cons.mp m with w | w
    · rw [w]; exact g.1.1
    · exact ih g.2 w
theorem TrR.rt0 (h : TrR I S q n) {j : Nat} (hj : (j : Int) < S 100 51) : I (q + 9) (S 100 51 - 1 - j) = (rtT S 0 n).getD j (-1) ∧ I (q + 5) (I (q + 9) (S 100 51 - 1 - j)) = S 254 (S 100 51 - 1 - j) := by
  obtain ⟨-, -, -, ⟨t1, -⟩, t3, t4, t5, -⟩ := h
  have l1 : j < (rtT S 0 n).length := by omega
  have l2 : j < (wsT S 0 n).length := by omega
  have g1 := List.getElem?_eq_getElem l1
  have g2 := List.getElem?_eq_getElem l2
  obtain ⟨a1, a2, a3⟩ := t5 j _ g1
  refine ⟨?_, ?_⟩
  · rw [a1, List.getD_eq_getElem?_getD, g1]; rfl
  · rw [a1, a3 _ g2, t4 j _ g2]
theorem TrR.last (h : TrR I S q n) : quLast I q = if 0 < S 100 51 then S 254 (S 100 51 - 1) else 0 := by
  unfold quLast
  rw [h.1.2.2.2]
  by_cases e : 0 < S 100 51
  · rw [if_pos e, if_pos e]
    have := (h.rt0 (j := 0) (by omega)).2
    rw [show S 100 51 - 1 - ((0 : Nat) : Int) = S 100 51 - 1 by omega] at this
    exact this
  · rw [if_neg e, if_neg e]
theorem TrR.earl (h : TrR I S q n) : quEarl I q = if 1 < S 100 51 then S 254 (S 100 51 - 2) else 0 := by
  unfold quEarl
  rw [h.1.2.2.2]
  by_cases e : 1 < S 100 51
  · rw [if_pos e, if_pos e]
    have := (h.rt0 (j := 1) (by omega)).2
    rw [show S 100 51 - 1 - ((1 : Nat) : Int) = S 100 51 - 2 by omega] at this
    exact this
  · rw [if_neg e, if_neg e]
/-- an operator more -/
theorem TrR.add {op A B C C' nt W F G : Int} (h : TrR I S q n) (hs : SSch S) (hn : n < 12) (hv : opV S op A B C (wsT S 0 n)) (hc : ¬ (op = 6 ∧ B = 0) → C' = C) (hc0 : op = 6 → B = 0 → C' = 0)
    (hS : (∀ t, S' 201 t = S 201 t) ∧ S' 100 0 = S 100 0 ∧ S' 100 52 = (n : Int) + 1 ∧ (∀ k, S' 256 k = if k = n then op else S 256 k) ∧ (∀ k, S' 257 k = if k = n then A else S 257 k) ∧ (∀ k, S' 258 k = if k = n then B else S 258 k) ∧ (∀ k, S' 259 k = if k = n then C else S 259 k) ∧ ∀ k, S' 260 k = if k = n then nt else S 260 k)
    (hT : S' 100 51 = S 100 51 + 1 - dOp op ∧ S' 100 55 = S 100 55 + (if op = 0 then 1 else 0) ∧ (∀ k, S' 254 k = if k = S' 100 51 - 1 then W else S 254 k))
    (hI : I' q 0 = (n : Int) + 1 ∧ I' q 1 = S' 100 55 ∧ I' q 7 = S' 100 51 ∧ (∀ k, I' (q + 3) k = if k = n then op else I (q + 3) k) ∧ (∀ k, I' (q + 4) k = if k = (n : Int) * 4 then A else if k = (n : Int) * 4 + 1 then B else if k = (n : Int) * 4 + 2 then C' else if k = (n : Int) * 4 + 3 then nt else I (q + 4) k) ∧ (∀ k, I' (q + 5) k = if k = n then W else I (q + 5) k) ∧ (∀ k, I' (q + 6) k = if k = n then F else I (q + 6) k) ∧ (∀ k, I' (q + 7) k = if k = n then G else I (q + 7) k) ∧ ∀ k, I' (q + 9) k = if k = S' 100 51 - 1 then (n : Int) else I (q + 9) k)
    (hW : ∀ e r, ws1 (S 201) op A (wsT S 0 n) = e :: r → W = e.1) (hF : F = if dOp op = 0 then -1 else if dOp op = 2 then (rtT S 0 n).getD 1 (-1) else (rtT S 0 n).getD 0 (-1)) (hG : G = if dOp op = 2 then (rtT S 0 n).getD 0 (-1) else -1) : TrR I' S' q (n + 1) := by
  obtain ⟨s1, s0, s52, s6, s7, s8, s9, s10⟩ := hS
  obtain ⟨t51, t55, t54⟩ := hT
  obtain ⟨i0, i1, i7, i3, i4, i5, i6, i77, i9⟩ := hI
  obtain ⟨⟨a1, a2, a3, a4⟩, b, ⟨c1, c2⟩, ⟨d1, d2⟩, e1, e2, e3, e4, e5⟩ := h
  obtain ⟨w1, w2⟩ := wsT_ok hs b n (Nat.le_refl _)
  obtain ⟨l1, ⟨e, l2⟩⟩ := ws1_shape (col := S 201) hv
  have W1 := hW e _ l2
  obtain ⟨o1, o2⟩ := ws1_ok hs w1 w2 hv
  have sm : OpSame S' S 0 0 n := fun j hj => by
    have hne : ¬ ((0 : Int) + (j : Int) = n) := by omega
    rw [s6, s7, s8, s9, s10, if_neg hne, if_neg hne, if_neg hne, if_neg hne, if_neg hne]
    exact ⟨rfl, rfl, rfl, rfl, rfl⟩
  have z0 : (0 : Int) + (n : Int) = n := by omega
  have h2 : ∀ t, 0 ≤ t → t < S 100 0 → S' 201 t = S 201 t := fun t _ _ => s1 t
  have wn := sm.ws b h2 n (Nat.le_refl _)
  have rn := sm.rt n (Nat.le_refl _)
  have s201 : S' 201 = S 201 := funext s1
  have ws' : wsT S' 0 (n + 1) = e :: (wsT S 0 n).drop (dOp op) := by
    show ws1 (S' 201) (S' 256 (0 + (n : Int))) (S' 257 (0 + (n : Int))) (wsT S' 0 n) = _
    rw [wn, s201, s6, s7, z0, if_pos rfl, if_pos rfl, l2]
  have rt' : rtT S' 0 (n + 1) = (n : Int) :: (rtT S 0 n).drop (dOp op) := by
    show rt1 (S' 256 (0 + (n : Int))) n (rtT S' 0 n) = _
    rw [rn, s6, z0, if_pos rfl]; rfl
  have qv' : QV S' 0 (n + 1) := by
    refine ⟨by omega, fun k hk => ?_⟩
    by_cases ek : k = n
    · subst ek
      rw [s6, s7, s8, s9, z0, if_pos rfl, if_pos rfl, if_pos rfl, if_pos rfl, wn]
      exact hv.of (by omega)
    · exact (sm.qv b h2 (by omega)).2 k (by omega)
  have lw : (wsT S' 0 (n + 1)).length = (wsT S 0 n).length + 1 - dOp op := by
    rw [ws', List.length_cons, List.length_drop]; omega
  refine ⟨⟨by rw [s52]; omega, by rw [i0]; omega, i1, i7⟩, qv', ⟨⟨by rw [i0]; omega, fun k hk => ?_⟩, fun k hk => ?_⟩, ⟨by rw [lw, t51]; omega, ?_⟩, ?_, fun j f hf => ?_, fun j r hr => ?_, fun j => ?_, fun k => ?_⟩
  · by_cases ek : k = n
    · subst ek
      have j0 : I' (q + 4) ((k : Int) * 4 + 0) = A := by rw [i4, if_pos (by omega)]
      have j1 : I' (q + 4) ((k : Int) * 4 + 1) = B := by rw [i4, if_neg (by omega), if_pos rfl]
      have j2 : I' (q + 4) ((k : Int) * 4 + 2) = C' := by rw [i4, if_neg (by omega), if_neg (by omega), if_pos rfl]
      have j3 : I' (q + 4) ((k : Int) * 4 + 3) = nt := by rw [i4, if_neg (by omega), if_neg (by omega), if_neg (by omega), if_pos rfl]
      rw [j0, j1, j2, j3, i3, i5, s6, s7, s8, s9, s10, z0, if_pos rfl, if_pos rfl, if_pos rfl, if_pos rfl, if_pos rfl, if_pos rfl, if_pos rfl, ws']
      exact ⟨⟨rfl, rfl, rfl⟩, hc, hc0, rfl, fun e' r' he => by cases he; exact W1⟩
    · have hk' : k < n := by omega
      obtain ⟨⟨p1, p2, p3⟩, p4, p5, p6, p7⟩ := c1.2 k hk'
      obtain ⟨q1, q2, q3, q4, q5⟩ := sm k hk'
      have ne : ¬ ((k : Int) = n) := by omega
      have n4 : ∀ j : Int, 0 ≤ j → j < 4 → I' (q + 4) ((k : Int) * 4 + j) = I (q + 4) ((k : Int) * 4 + j) := fun j j0 j1 => by
        rw [i4, if_neg (by omega), if_neg (by omega), if_neg (by omega), if_neg (by omega)]
      rw [i3, if_neg ne, n4 0 (by decide) (by decide), n4 1 (by decide) (by decide), n4 2 (by decide) (by decide), n4 3 (by decide) (by decide), i5, if_neg ne, q1, q2, q3, q4, q5, sm.ws b h2 (k + 1) hk']
      exact ⟨⟨p1, p2, p3⟩, p4, p5, p6, p7⟩
  · by_cases ek : k = n
    · subst ek
      unfold nd1 nd2
      rw [i6, i77, if_pos rfl, if_pos rfl, s6, z0, if_pos rfl, rn]
      exact ⟨hF, hG⟩
    · have hk' : k < n := by omega
      have ne : ¬ ((k : Int) = n) := by omega
      unfold nd1 nd2
      rw [i6, i77, if_neg ne, if_neg ne, (sm k hk').1, sm.rt k (by omega)]
      exact c2 k hk'
  · have := ws1_sum (col := S 201) hv
    rw [ws', ← l2, this, t55, d2]
    by_cases e0 : op = 0
    · rw [if_pos e0, if_pos e0]; omega
    · rw [if_neg e0, if_neg e0]; omega
  · rw [rt', ws', List.length_cons, List.length_cons, List.length_drop, List.length_drop, e1]
  · rw [ws'] at hf
    cases j with
    | zero =>
      have : e = f := Option.some.inj hf
      subst this
      rw [t54, if_pos (by omega), W1]
    | succ j =>
      have hf : ((wsT S 0 n).drop (dOp op))[j]? = some f := hf
      rw [List.getElem?_drop] at hf
      have := e2 (dOp op + j) f hf
      rw [t54, if_neg (by omega), ← this, t51]
      congr 1
      omega
  · rw [rt'] at hr
    cases j with
    | zero =>
      have er : (n : Int) = r := Option.some.inj hr
      subst er
      refine ⟨by rw [i9, if_pos (by omega)], by omega, fun f hf => ?_⟩
      rw [ws'] at hf
      have : e = f := Option.some.inj hf
      subst this
      rw [i5, if_pos rfl, W1]
    | succ j =>
      have hr : ((rtT S 0 n).drop (dOp op))[j]? = some r := hr
      rw [List.getElem?_drop] at hr
      obtain ⟨u1, u2, u3⟩ := e3 (dOp op + j) r hr
      refine ⟨?_, by omega, fun f hf => ?_⟩
      · rw [i9, if_neg (by omega), ← u1, t51]
        congr 1
        omega
      · rw [ws'] at hf
        have hf : ((wsT S 0 n).drop (dOp op))[j]? = some f := hf
        rw [List.getElem?_drop] at hf
        rw [i5, if_neg (by omega)]
        exact u3 f hf
  · rw [i9]
    split
    · omega
    · exact e4 j
  · rw [t54]
    split
    · have := o1
      rw [l2] at this
      rw [W1]
      have := this.1.1
      omega
    · exact e5 k
end
