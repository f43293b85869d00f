/-! the order that is found: class and reference -/
section
variable {I S T U V J : IT} {x Q : Int} {n q top m : Nat}
theorem vC2 : ∀ c : Fin 4, (((wk (spS 2 (c.val : Int) 2) 10 : Nat) : Int) = 2) ↔ (c.val = 1 ∨ c.val = 2) := by decide +kernel
theorem vC3 : ∀ c : Fin 27, (((wk (spS 3 (c.val : Int) 3) 10 : Nat) : Int) = 3) ↔ (c.val = 5 ∨ c.val = 7 ∨ c.val = 11 ∨ c.val = 15 ∨ c.val = 19 ∨ c.val = 21) := by decide +kernel
theorem vR2 : ∀ r : Fin 16, (setN (ordR 2 0 (r.val : Int)) 2 = 2 ^ 2 - 1) ↔ (r.val = 1 ∨ r.val = 4) := by decide +kernel
theorem vR3 : ∀ r : Fin 64, (setN (ordR 3 0 (r.val : Int)) 3 = 2 ^ 3 - 1) ↔ (r.val = 6 ∨ r.val = 9 ∨ r.val = 18 ∨ r.val = 24 ∨ r.val = 33 ∨ r.val = 36) := by decide +kernel
/-- a code of the class and a number of the reference spell the same order -/
def spell (n c r : Nat) : Prop := ∀ k : Nat, k < n → spG n c (n - 1 - k) = digO (ordR n 0 r) k ∧ digO (ordR n 0 r) k < n
theorem sp2 : (∀ k : Fin 2, spG 2 1 (2 - 1 - k.val) = digO (ordR 2 0 1) k.val ∧ digO (ordR 2 0 1) k.val < 2) ∧ (∀ k : Fin 2, spG 2 2 (2 - 1 - k.val) = digO (ordR 2 0 4) k.val ∧ digO (ordR 2 0 4) k.val < 2) := by decide +kernel
theorem sp3 : ∀ p ∈ [((5 : Int), (6 : Int)), (7, 9), (11, 18), (15, 24), (19, 33), (21, 36)], ∀ k : Fin 3, spG 3 p.1 (3 - 1 - k.val) = digO (ordR 3 0 p.2) k.val ∧ digO (ordR 3 0 p.2) k.val < 3 := by decide +kernel
/-- class and reference have found the same so far -/
def Fnd (D : IT) (q n : Nat) (W : IT) (b : Int × Int) : Prop := (∀ o, o ≠ q → o ≠ q + 13 → o ≠ 1397 → W o = D o) ∧ (∀ k, k ≠ 9 → k ≠ 10 → k ≠ 11 → W q k = D q k) ∧ ((W q 9 = 0 ∧ b.1 < 0) ∨ (W q 9 = 1 ∧ 0 ≤ b.1 ∧ W q 10 = b.1 ∧ W q 11 = n ∧ ∀ k : Nat, k < n → W (q + 13) k = digO b.2 k))
theorem Fnd.skip {D W : IT} {b : Int × Int} {c : Int} (hq : 10000 ≤ q) (h : Fnd D q n W b) (hv : ¬ spW n c) : Fnd D q n (chO W q n m c) b := by
  rw [chO_no (fun z => hv z.1)]
  obtain ⟨h1, h2, h3⟩ := h
  have e1 : ∀ o, o ≠ 1397 → spT W n c n o = W o := fun o ho => spT_o ho n
  refine ⟨fun o a b d => (e1 o d).trans (h1 o a b d), fun k a b d => by rw [e1 q (by omega)]; exact h2 k a b d, ?_⟩
  rw [e1 q (by omega), e1 (q + 13) (by omega)]
  exact h3
theorem Fnd.take {D W JC : IT} {c r : Nat} {nj : Nat} (hq : 10000 ≤ q) (hn : 1 ≤ n ∧ n ≤ 3) (hc : CoOK JC U Q n m) (h : Fnd D q n W (bsK JC U Q n m r)) (hv : spW n c) (hr : setN (ordR n 0 r) n = 2 ^ n - 1) (sp : spell n c r)
    (rows : ∀ z : Int, 0 ≤ z → z < n → D 1390 z = JC 287 z) (jn : ∀ V : IT, (∀ o, o = 1392 ∨ o = 1393 ∨ o = 1395 ∨ o = 1396 → V o = D o) → ∀ t leaf r, ctJ V t leaf r m = mCj U Q n t leaf r m) : Fnd D q n (chO W q n m c) (bsK JC U Q n m (r + 1)) := by
  obtain ⟨h1, h2, h3⟩ := h
  have e1 : ∀ o, o ≠ 1397 → spT W n c n o = W o := fun o ho => spT_o ho n
  have dig : ∀ k : Nat, k < n → spT W n c n 1397 k = digO (ordR n 0 r) k := fun k hk => by
    rw [spT_at n k (by omega) (by omega), ← (sp k hk).1, show ((n : Int) - 1 - (k : Int)).toNat = n - 1 - k by omega]
  have cost : chC (spT W n c n) n m = (mCost JC U Q (ordR n 0 r) n m (n - 1)).2.1 := by
    unfold chC
    rw [cost_eq (U := U) (Q := Q) (J := JC) (code := ordR n 0 r) (nl := n) hn.1 (fun k hk => ⟨dig k hk, (sp k hk).2⟩) (fun z z0 z1 => by rw [e1 1390 (by decide), h1 1390 (by omega) (by omega) (by decide)]; exact rows z z0 z1) (jn _ (fun o ho => (e1 o (by omega)).trans (h1 o (by omega) (by omega) (by omega)))) (n - 1) (by omega)]
  have cr := (mCost_rg (x := ordR n 0 r) hc (n - 1) (by omega)).2.1
  have w9 : spT W n c n q 9 = W q 9 := by rw [e1 q (by omega)]
  have w10 : spT W n c n q 10 = W q 10 := by rw [e1 q (by omega)]
  by_cases y : W q 9 = 0 ∨ (mCost JC U Q (ordR n 0 r) n m (n - 1)).2.1 < W q 10
  · have yb : (bsK JC U Q n m r).1 < 0 ∨ (mCost JC U Q (ordR n 0 r) n m (n - 1)).2.1 < (bsK JC U Q n m r).1 := by
      rcases h3 with ⟨a, b⟩ | ⟨a, b, d, -⟩
      · exact Or.inl b
      · rcases y with y | y
        · omega
        · exact Or.inr (by rw [← d]; exact y)
    rw [bsK_1 hr yb, chO_yes ⟨hv, by rw [w9, w10, cost]; exact y⟩]
    have pq : ∀ k, chP (spT W n c n) q n m q k = up2 (up2 (up2 (spT W n c n) q 9 1) q 10 (chC (spT W n c n) n m)) q 11 n q k := fun k => if_neg (fun z => by have := z.1; omega)
    refine ⟨fun o a b d => (chP_o a b).trans ((e1 o d).trans (h1 o a b d)), fun k a b d => ?_, Or.inr ⟨?_, cr.1, ?_, ?_, fun k hk => ?_⟩⟩
    · rw [pq, up2_k _ _ _ _ d, up2_k _ _ _ _ b, up2_k _ _ _ _ a, e1 q (by omega)]
      exact h2 k a b d
    · rw [pq, up2_k _ _ _ _ (by decide), up2_k _ _ _ _ (by decide), up2_eq]
    · rw [pq, up2_k _ _ _ _ (by decide), up2_eq, cost]
    · rw [pq, up2_eq]
    · have e2 : chP (spT W n c n) q n m (q + 13) k = up2 (up2 (up2 (spT W n c n) q 9 1) q 10 (chC (spT W n c n) n m)) q 11 n 1397 (0 + ((k : Int) - 0)) := if_pos ⟨rfl, by omega, by omega⟩
      rw [e2, up2_o _ _ _ _ (by omega), up2_o _ _ _ _ (by omega), up2_o _ _ _ _ (by omega), show (0 + ((k : Int) - 0)) = (k : Int) by omega]
      exact dig k hk
  · have yb : ¬ (setN (ordR n 0 r) n = 2 ^ n - 1 ∧ ((bsK JC U Q n m r).1 < 0 ∨ (mCost JC U Q (ordR n 0 r) n m (n - 1)).2.1 < (bsK JC U Q n m r).1)) := fun z => by
      rcases h3 with ⟨a, b⟩ | ⟨a, b, d, -⟩
      · exact y (Or.inl a)
      · rcases z.2 with z | z
        · omega
        · exact y (Or.inr (by rw [d]; exact z))
    rw [bsK_0 yb, chO_no (fun z => y (by have := z.2; rw [w9, w10, cost] at this; exact this))]
    refine ⟨fun o a b d => (e1 o d).trans (h1 o a b d), fun k a b d => by rw [e1 q (by omega)]; exact h2 k a b d, ?_⟩
    rw [e1 q (by omega), e1 (q + 13) (by omega)]
    exact h3
theorem Fnd.skips {D : IT} {b : Int × Int} {c0 : Nat} (hq : 10000 ≤ q) (h : Fnd D q n (chZ D q n m c0) b) : ∀ l : Nat, (∀ c : Nat, c0 ≤ c → c < c0 + l → ¬ spW n c) → Fnd D q n (chZ D q n m (c0 + l)) b := by
  intro l
  induction l with
  | zero => exact fun _ => h
  | succ l ihq => intro hv; exact (ihq (fun c a b => hv c a (by omega))).skip hq (hv (c0 + l) (by omega) (by omega))
theorem bs_skips {JC : IT} {r0 : Nat} : ∀ l : Nat, (∀ r : Nat, r0 ≤ r → r < r0 + l → ¬ setN (ordR n 0 r) n = 2 ^ n - 1) → bsK JC U Q n m (r0 + l) = bsK JC U Q n m r0 := by
  intro l
  induction l with
  | zero => exact fun _ => rfl
  | succ l ihq =>
    intro hv
    have : bsK JC U Q n m (r0 + l + 1) = bsK JC U Q n m (r0 + l) := bsK_0 (fun z => hv (r0 + l) (by omega) (by omega) z.1)
    rw [← Nat.add_assoc, this]
    exact ihq (fun r a b => hv r a (by omega))
/-- from one order to the next -/
theorem Fnd.next {D JC : IT} {c0 r0 c1 r1 : Nat} (hq : 10000 ≤ q) (hn : 1 ≤ n ∧ n ≤ 3) (hc : CoOK JC U Q n m) (rows : ∀ z : Int, 0 ≤ z → z < n → D 1390 z = JC 287 z) (jn : ∀ V : IT, (∀ o, o = 1392 ∨ o = 1393 ∨ o = 1395 ∨ o = 1396 → V o = D o) → ∀ t leaf r, ctJ V t leaf r m = mCj U Q n t leaf r m)
    (hc0 : c0 ≤ c1) (hr0 : r0 ≤ r1) (vc : ∀ c : Nat, c0 ≤ c → c < c1 → ¬ spW n c) (vr : ∀ r : Nat, r0 ≤ r → r < r1 → ¬ setN (ordR n 0 r) n = 2 ^ n - 1) (hv : spW n c1) (hr : setN (ordR n 0 r1) n = 2 ^ n - 1) (sp : spell n c1 r1) (h : Fnd D q n (chZ D q n m c0) (bsK JC U Q n m r0)) : Fnd D q n (chZ D q n m (c1 + 1)) (bsK JC U Q n m (r1 + 1)) := by
  have s1 := h.skips hq (c1 - c0) (fun c a b => vc c a (by omega))
  rw [show c0 + (c1 - c0) = c1 by omega] at s1
  have s2 := bs_skips (JC := JC) (U := U) (Q := Q) (n := n) (m := m) (r0 := r0) (r1 - r0) (fun r a b => vr r a (by omega))
  rw [show r0 + (r1 - r0) = r1 by omega] at s2
  rw [← s2] at s1
  exact s1.take (nj := 0) hq hn hc hv hr sp rows jn
theorem found_eq {D JC : IT} (hq : 10000 ≤ q) (hn : n = 2 ∨ n = 3) (hc : CoOK JC U Q n m) (rows : ∀ z : Int, 0 ≤ z → z < n → D 1390 z = JC 287 z) (jn : ∀ V : IT, (∀ o, o = 1392 ∨ o = 1393 ∨ o = 1395 ∨ o = 1396 → V o = D o) → ∀ t leaf r, ctJ V t leaf r m = mCj U Q n t leaf r m) :
    Fnd D q n (chZ D q n m (n ^ n)) (bsE JC U Q n m) ∧ chZ D q n m (n ^ n) q 9 = 1 := by
  have st : Fnd D q n (chZ D q n m 0) (bsK JC U Q n m 0) := ⟨fun o a _ _ => funext (fun z => up2_o _ _ _ _ a), fun k a _ _ => up2_k _ _ _ _ a, Or.inl ⟨up2_eq _ _ _ _, by show (-1 : Int) < 0; decide⟩⟩
  have pos : ∀ (W : IT) (r1 : Nat), setN (ordR n 0 r1) n = 2 ^ n - 1 → Fnd D q n W (bsK JC U Q n m (r1 + 1)) → W q 9 = 1 := fun W r1 hr h => by
    rcases h.2.2 with ⟨-, b⟩ | ⟨a, -⟩
    · exfalso
      have cr := (mCost_rg (x := ordR n 0 r1) hc (n - 1) (by omega)).2.1
      by_cases y : (bsK JC U Q n m r1).1 < 0 ∨ (mCost JC U Q (ordR n 0 r1) n m (n - 1)).2.1 < (bsK JC U Q n m r1).1
      · rw [bsK_1 hr y] at b
        have b2 : (mCost JC U Q (ordR n 0 r1) n m (n - 1)).2.1 < 0 := b
        omega
      · rw [bsK_0 (fun z => y z.2)] at b
        exact y (Or.inl b)
    · exact a
  rcases hn with e | e
  · subst e
    have vc : ∀ c : Nat, c < 4 → (spW (2 : Nat) c ↔ (c = 1 ∨ c = 2)) := fun c hc4 => vC2 ⟨c, hc4⟩
    have vr : ∀ r : Nat, r < 16 → (setN (ordR 2 0 r) 2 = 2 ^ 2 - 1 ↔ (r = 1 ∨ r = 4)) := fun r hr => vR2 ⟨r, hr⟩
    have g1 := Fnd.next (c1 := 1) (r1 := 1) hq ⟨by decide, by decide⟩ hc rows jn (by omega) (by omega) (fun c a b z => by have := (vc c (by omega)).mp z; omega) (fun r a b z => by have := (vr r (by omega)).mp z; omega) ((vc 1 (by decide)).mpr (by omega)) ((vr 1 (by decide)).mpr (by omega)) (fun k hk => sp2.1 ⟨k, hk⟩) st
    have g2 := Fnd.next (c1 := 2) (r1 := 4) hq ⟨by decide, by decide⟩ hc rows jn (by omega) (by omega) (fun c a b z => by have := (vc c (by omega)).mp z; omega) (fun r a b z => by have := (vr r (by omega)).mp z; omega) ((vc 2 (by decide)).mpr (by omega)) ((vr 4 (by decide)).mpr (by omega)) (fun k hk => sp2.2 ⟨k, hk⟩) g1
    have p9 := pos _ 4 ((vr 4 (by decide)).mpr (by omega)) (g2.skips hq 1 (fun c a b z => by have := (vc c (by omega)).mp z; omega))
    have g3 := g2.skips hq 1 (fun c a b z => by have := (vc c (by omega)).mp z; omega)
    have s2 := bs_skips (JC := JC) (U := U) (Q := Q) (n := 2) (m := m) (r0 := 4 + 1) 11 (fun r a b z => by have := (vr r (by omega)).mp z; omega)
    rw [← s2] at g3
    exact ⟨g3, p9⟩
  · subst e
    have vc : ∀ c : Nat, c < 27 → (spW (3 : Nat) c ↔ (c = 5 ∨ c = 7 ∨ c = 11 ∨ c = 15 ∨ c = 19 ∨ c = 21)) := fun c hc4 => vC3 ⟨c, hc4⟩
    have vr : ∀ r : Nat, r < 64 → (setN (ordR 3 0 r) 3 = 2 ^ 3 - 1 ↔ (r = 6 ∨ r = 9 ∨ r = 18 ∨ r = 24 ∨ r = 33 ∨ r = 36)) := fun r hr => vR3 ⟨r, hr⟩
    have go : ∀ (c0 r0 c1 r1 : Nat), c0 ≤ c1 → r0 ≤ r1 → c1 < 27 → r1 < 64 → (∀ c : Nat, c0 ≤ c → c < c1 → ¬ (c = 5 ∨ c = 7 ∨ c = 11 ∨ c = 15 ∨ c = 19 ∨ c = 21)) → (∀ r : Nat, r0 ≤ r → r < r1 → ¬ (r = 6 ∨ r = 9 ∨ r = 18 ∨ r = 24 ∨ r = 33 ∨ r = 36)) → (c1 = 5 ∨ c1 = 7 ∨ c1 = 11 ∨ c1 = 15 ∨ c1 = 19 ∨ c1 = 21) → (r1 = 6 ∨ r1 = 9 ∨ r1 = 18 ∨ r1 = 24 ∨ r1 = 33 ∨ r1 = 36) → ((c1 : Int), (r1 : Int)) ∈ [((5 : Int), (6 : Int)), (7, 9), (11, 18), (15, 24), (19, 33), (21, 36)] → Fnd D q 3 (chZ D q 3 m c0) (bsK JC U Q 3 m r0) → Fnd D q 3 (chZ D q 3 m (c1 + 1)) (bsK JC U Q 3 m (r1 + 1)) := fun c0 r0 c1 r1 a1 a2 a3 a4 a5 a6 a7 a8 a9 h => Fnd.next hq ⟨by decide, by decide⟩ hc rows jn a1 a2 (fun c b1 b2 z => a5 c b1 b2 ((vc c (by omega)).mp z)) (fun r b1 b2 z => a6 r b1 b2 ((vr r (by omega)).mp z)) ((vc c1 a3).mpr a7) ((vr r1 a4).mpr a8) (fun k hk => sp3 _ a9 ⟨k, hk⟩) h
    have g1 := go 0 0 5 6 (by omega) (by omega) (by omega) (by omega) (fun c a b => by omega) (fun r a b => by omega) (by omega) (by omega) (by decide) st
    have g2 := go 6 7 7 9 (by omega) (by omega) (by omega) (by omega) (fun c a b => by omega) (fun r a b => by omega) (by omega) (by omega) (by decide) g1
    have g3 := go 8 10 11 18 (by omega) (by omega) (by omega) (by omega) (fun c a b => by omega) (fun r a b => by omega) (by omega) (by omega) (by decide) g2
    have g4 := go 12 19 15 24 (by omega) (by omega) (by omega) (by omega) (fun c a b => by omega) (fun r a b => by omega) (by omega) (by omega) (by decide) g3
    have g5 := go 16 25 19 33 (by omega) (by omega) (by omega) (by omega) (fun c a b => by omega) (fun r a b => by omega) (by omega) (by omega) (by decide) g4
    have g6 := go 20 34 21 36 (by omega) (by omega) (by omega) (by omega) (fun c a b => by omega) (fun r a b => by omega) (by omega) (by omega) (by decide) g5
    have g7 := g6.skips hq 5 (fun c a b z => by have := (vc c (by omega)).mp z; omega)
    have p9 := pos _ 36 ((vr 36 (by decide)).mpr (by omega)) g7
    have s2 := bs_skips (JC := JC) (U := U) (Q := Q) (n := 3) (m := m) (r0 := 36 + 1) 27 (fun r a b z => by have := (vr r (by omega)).mp z; omega)
    rw [← s2] at g7
    exact ⟨g7, p9⟩
end
