/-! a query in class and reference, and what comes of it -/
section
variable {I S : IT} {a qn n : Nat} {s y x : Int}
/-- the class's query qn is the reference's from x on -/
def QRe (I S : IT) (qn : Nat) (x : Int) (n : Nat) : Prop := I qn 0 = n ∧ ∀ k : Nat, k < n → (I (qn + 3) (k : Int) = S 256 (x + k) ∧ I (qn + 4) ((k : Int) * 4 + 0) = S 257 (x + k) ∧ I (qn + 4) ((k : Int) * 4 + 1) = S 258 (x + k)) ∧ (¬ (S 256 (x + k) = 6 ∧ S 258 (x + k) = 0) → I (qn + 4) ((k : Int) * 4 + 2) = S 259 (x + k)) ∧ (S 256 (x + k) = 6 → S 258 (x + k) = 0 → I (qn + 4) ((k : Int) * 4 + 2) = 0) ∧ I (qn + 4) ((k : Int) * 4 + 3) = S 260 (x + k) ∧ ∀ e r, wsT S x (k + 1) = e :: r → I (qn + 5) (k : Int) = e.1
theorem ev_both (hR : RSch I S) (hs : SSch S) (hE : RowEq I a S s) (hW : RWc I a) (hm : RWm S s) (hq : QV S x n) (hr : QRe I S qn x n) : ∀ k : Nat, k ≤ n → EvS k (evK S s y x k) (wsT S x k) ∧ StkP (evC I 1032 1034 1040 a y qn k) (evK S s y x k) ∧ (evCF I 1032 1034 1040 a y qn k ↔ evF S s y x k) := by
  intro k
  induction k with
  | zero => intro _; exact ⟨trivial, trivial, Iff.rfl⟩
  | succ k ih =>
    intro hk
    obtain ⟨h1, h2, h3⟩ := ih (by omega)
    obtain ⟨⟨r1, r2, r3⟩, r4, r5, r6, -⟩ := hr.2 k (by omega)
    have hv := hq.2 k (by omega)
    obtain ⟨w1, w2⟩ := wsT_ok hs hq k (by omega)
    have n12 := hq.1
    have hb : 0 ≤ (k : Int) ∧ (k : Int) ≤ 12 := by omega
    refine ⟨?_, ?_, ?_⟩
    · have := EvS.step (nt := S 260 (x + k)) (sc := scM S s y) hb h1 w1 w2 hv (fun e => by
        obtain ⟨a1, -⟩ := hv.2.1 e
        have h6 := hs.1
        have c := hs.2.1 _ a1.1 a1.2
        have m8 := hm.1 (S 257 (x + k)) a1.1 (by omega)
        refine ⟨rfl, fun r hr => ?_, ?_, ?_⟩
        · obtain ⟨_, _, _, e3⟩ := (mem_scanK _).mp hr
          rw [e3]; exact rowAt_len
        · have := scanK_len (I := S) (s := s) (y := y) (t := S 257 (x + k)) (w := (S 201 (S 257 (x + k))).toNat) (S 214 (6 * s + S 257 (x + k))).toNat
          show (scanK S s y (S 257 (x + k)) (S 201 (S 257 (x + k))).toNat (S 214 (6 * s + S 257 (x + k))).toNat).length ≤ 8
          omega
        · have := scanK_w (y := y) hm ⟨a1.1, by omega⟩ (w := (S 201 (S 257 (x + k))).toNat) (by omega) (S 214 (6 * s + S 257 (x + k))).toNat (by omega)
          show tw (scanK S s y (S 257 (x + k)) (S 201 (S 257 (x + k))).toNat (S 214 (6 * s + S 257 (x + k))).toNat) ≤ 8000
          omega)
      exact this
    · show StkP (ev1 (scC I 1032 1034 1040 a y) (I (qn + 3) (k : Int)) (I (qn + 4) ((k : Int) * 4 + 0)) (I (qn + 4) ((k : Int) * 4 + 1)) (I (qn + 4) ((k : Int) * 4 + 2)) (I (qn + 4) ((k : Int) * 4 + 3)) (evC I 1032 1034 1040 a y qn k)) (ev1 (scM S s y) (S 256 (x + k)) (S 257 (x + k)) (S 258 (x + k)) (S 259 (x + k)) (S 260 (x + k)) (evK S s y x k))
      rw [r1, r2, r3, r6]
      refine StkP.step (S := S) hb h2 h1 w2 hv r4 (fun e => ?_)
      obtain ⟨a1, -⟩ := hv.2.1 e
      have h6 := hs.1
      have c := hs.2.1 _ a1.1 a1.2
      have ew := (hR.2.1 (S 257 (x + k)) a1.1 (by omega)).1
      unfold scC scM
      rw [ew]
      exact ⟨rfl, scan_perm hR hs hE hW hm ⟨a1.1, by omega⟩ ⟨by omega, by omega⟩⟩
    · show (evCF I 1032 1034 1040 a y qn k ∨ ev1F (I (qn + 3) (k : Int)) (I (qn + 4) ((k : Int) * 4 + 0)) (I (qn + 4) ((k : Int) * 4 + 1)) (evC I 1032 1034 1040 a y qn k)) ↔ (evF S s y x k ∨ ev1F (S 256 (x + k)) (S 257 (x + k)) (S 258 (x + k)) (evK S s y x k))
      rw [r1, r2, r3, h3, h2.fail]
theorem EvS.nil {b : Int} {st : STK} (h : EvS b st []) : st = [] := by
  cases st with
  | nil => rfl
  | cons z st => exact h.elim
theorem q_ok {q : Int} {w c : Nat} (hR : RSch I S) (hs : SSch S) (hE : RowEq I a S s) (hW : RWc I a) (hm : RWm S s) (hq : QV S (12 * (q + 1)) n) (hr : QRe I S qn (12 * (q + 1)) n) (hn : S 262 q = n) (hw : wsT S (12 * (q + 1)) n = [(w, c)]) :
    ∃ L LC, FnOK S s y q n w L ∧ EcOK I 1032 1034 1040 a y qn n w LC ∧ LC.Perm L ∧ (∀ r ∈ L, r.length = w) ∧ (evCF I 1032 1034 1040 a y qn n ↔ evF S s y (12 * (q + 1)) n) := by
  have all := ev_both (y := y) hR hs hE hW hm hq hr
  have n12 := hq.1
  have h6 := hs.1.2
  obtain ⟨g1, g2, g3⟩ := all n (Nat.le_refl _)
  rw [hw] at g1
  obtain ⟨z, st, e1, ⟨z1, z2, -⟩, e2⟩ := g1.one
  have e3 := e2.nil
  subst e3
  have z1' : z.1 = w := z1
  rw [e1] at g2
  obtain ⟨zc, sc, f1, ⟨f2, f3⟩, f4⟩ := g2.one
  have f5 : sc = [] := by
    cases sc with
    | nil => rfl
    | cons _ _ => exact f4.elim
  subst f5
  refine ⟨z.2, zc.2, ⟨⟨hn, n12⟩, fun k hk => ?_, fun k hk => ?_, ?_⟩, ⟨⟨hr.1, n12⟩, fun k hk => ?_, fun k hk => ?_, ?_⟩, f3, fun r hr => (z2 r hr).trans z1', g3⟩
  · obtain ⟨a1, -, -⟩ := all k (by omega)
    obtain ⟨w1, w2⟩ := wsT_ok hs hq k (by omega)
    exact (hq.2 k hk).okS (b := k) (by omega) h6 a1 w1 w2
  · obtain ⟨a1, -, -⟩ := all k hk
    obtain ⟨w1, w2⟩ := wsT_ok hs hq k hk
    have := w1.len
    have := a1.len
    exact ⟨a1.stB w1 w2, by omega⟩
  · rw [e1, ← z1']
  · obtain ⟨a1, a2, -⟩ := all k (by omega)
    obtain ⟨w1, w2⟩ := wsT_ok hs hq k (by omega)
    obtain ⟨⟨r1, r2, r3⟩, r4, r5, r6, r7⟩ := hr.2 k hk
    have hv := hq.2 k hk
    rw [r1, r2, r3]
    refine ⟨hv.okC (b := k) (by omega) h6 (a2.ev a1) w1 w2 r4 r5 r7, fun e => ?_, ?_⟩
    · obtain ⟨c1, -⟩ := hv.2.1 e
      have c := hs.2.1 _ c1.1 c1.2
      have ew := (hR.2.1 (S 257 (12 * (q + 1) + k)) c1.1 (by omega)).1
      have := r7 _ _ (ws1_0 e)
      have e9 : I (qn + 5) (k : Int) = S 201 (S 257 (12 * (q + 1) + k)) := this.trans (by show (((S 201 (S 257 (12 * (q + 1) + k))).toNat : Nat) : Int) = _; omega)
      rw [e9, ew]
      exact ⟨rfl, by omega, by omega⟩
    · have := hv.1
      omega
  · obtain ⟨a1, a2, -⟩ := all k hk
    obtain ⟨w1, w2⟩ := wsT_ok hs hq k hk
    have a3 := a2.ev a1
    have := w1.len
    have := a3.len
    exact ⟨a3.stB w1 w2, by omega⟩
  · rw [f1, ← z1', ← f2]
end
