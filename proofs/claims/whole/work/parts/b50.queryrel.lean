/-! a query comes: class and reference -/
section
variable {I S I' S' : IT} {q n nq : Nat}
theorem TrR.zero (hS : S 100 51 = 0 ∧ S 100 52 = 0 ∧ S 100 55 = 0) (hI : I q 0 = 0 ∧ I q 1 = 0 ∧ I q 7 = 0) (h9 : ∀ j, 0 ≤ I (q + 9) j ∧ I (q + 9) j < 12) (h4 : ∀ k, 0 ≤ S 254 k ∧ S 254 k ≤ 10) : TrR I S q 0 := by
  obtain ⟨aZ, bZ, cZ⟩ := hS
  obtain ⟨dZZ, eZ, fZ⟩ := hI
  exact ⟨⟨bZ, dZZ, eZ.trans cZ.symm, fZ.trans aZ.symm⟩, ⟨Nat.zero_le _, fun k hk => absurd hk (Nat.not_lt_zero _)⟩, ⟨⟨dZZ, fun k hk => absurd hk (Nat.not_lt_zero _)⟩, fun k hk => absurd hk (Nat.not_lt_zero _)⟩, ⟨aZ, cZ⟩, rfl, fun j eZ h => (by cases h), fun j r h => (by cases h), h9, h4⟩
theorem mQryX {T : IT} (hT : T = mQry S) (h61 : S 100 61 = nq) (h52 : S 100 52 = n) : (∀ o, o < 256 → o ≠ 100 → T o = S o) ∧ (∀ o, 263 ≤ o → T o = S o) ∧ (∀ k, k ≠ 51 → k ≠ 52 → k ≠ 55 → k ≠ 61 → T 100 k = S 100 k) ∧ (T 100 51 = 0 ∧ T 100 52 = 0 ∧ T 100 55 = 0 ∧ T 100 61 = (nq : Int) + 1) ∧ (∀ o k, 256 ≤ o → o ≤ 260 → T o k = if 12 * ((nq : Int) + 1) ≤ k ∧ k < 12 * ((nq : Int) + 1) + n then S o (k - 12 * ((nq : Int) + 1)) else S o k) ∧ (∀ k, T 262 k = if k = nq then (n : Int) else S 262 k) := by
  subst hT
  unfold mQry mClears
  rw [h61, h52]
  have mq : ∀ o k, o < 256 ∨ 260 < o → mQc S (12 * ((nq : Int) + 1)) n o k = S o k := fun o k h => if_neg (fun zZ => by have := zZ.1; omega)
  refine ⟨fun o h1 h2 => funext (fun k => ?_), fun o h => funext (fun k => ?_), fun k h1 h2 h3 h4 => ?_, ⟨?_, ?_, ?_, up2_eq _ _ _ _⟩, fun o k h1 h2 => ?_, fun k => ?_⟩
  · rw [up2_o _ _ _ _ h2, up2_o _ _ _ _ h2, up2_o _ _ _ _ h2, up2_o _ _ _ _ h2, up2_o _ _ _ _ (by omega), mq o k (Or.inl h1)]
  · rw [up2_o _ _ _ _ (by omega), up2_o _ _ _ _ (by omega), up2_o _ _ _ _ (by omega), up2_o _ _ _ _ (by omega), up2_o _ _ _ _ (by omega), mq o k (Or.inr (by omega))]
  · rw [up2_k _ _ _ _ h4, up2_k _ _ _ _ h3, up2_k _ _ _ _ h2, up2_k _ _ _ _ h1, up2_o _ _ _ _ (by decide), mq 100 k (Or.inl (by decide))]
  · rw [up2_k _ _ _ _ (by decide), up2_k _ _ _ _ (by decide), up2_k _ _ _ _ (by decide), up2_eq]
  · rw [up2_k _ _ _ _ (by decide), up2_k _ _ _ _ (by decide), up2_eq]
  · rw [up2_k _ _ _ _ (by decide), up2_eq]
  · rw [up2_o _ _ _ _ (by omega), up2_o _ _ _ _ (by omega), up2_o _ _ _ _ (by omega), up2_o _ _ _ _ (by omega), up2_o _ _ _ _ (by omega)]
    unfold mQc
    by_cases zZ : 12 * ((nq : Int) + 1) ≤ k ∧ k < 12 * ((nq : Int) + 1) + n
    · rw [if_pos ⟨⟨h1, h2⟩, zZ⟩, if_pos zZ]
    · rw [if_neg (fun y => zZ y.2), if_neg zZ]
  · rw [up2_o _ _ _ _ (by decide), up2_o _ _ _ _ (by decide), up2_o _ _ _ _ (by decide), up2_o _ _ _ _ (by decide), up2_if, mq 262 k (Or.inr (by decide))]
theorem query_cd (h : TrR I S q n) (h61 : S 100 61 = nq) (h20 : nq ≤ 20) : (cd_Model_query S = 1 ∧ ¬ (I q 7 = 1 ∧ nq < 20)) ∨ (cd_Model_query S = 0 ∧ I q 7 = 1 ∧ nq < 20) := by
  obtain ⟨a1Z, a2, a3, a4⟩ := h.1
  unfold cd_Model_query
  by_cases eZ : I q 7 = 1 ∧ nq < 20
  · rw [if_neg (show ¬ (S 100 51 ≠ 1 ∨ S 100 61 = 20) by omega)]
    exact Or.inr ⟨rfl, eZ⟩
  · rw [if_pos (show S 100 51 ≠ 1 ∨ S 100 61 = 20 by omega)]
    exact Or.inl ⟨rfl, eZ⟩
/-- a query more -/
theorem tw_len1 {α : Type} : ∀ {y : List α}, y.length = 1 → ∃ u, y = [u]
  | [], z => absurd (show (0 : Nat) = 1 from z) (by decide)
  | [u], _ => ⟨u, rfl⟩
  | _ :: _ :: l, z => absurd z (by show l.length + 1 + 1 ≠ 1; omega)
theorem QsR.add (h : QsR I S nq) (hT : TrR I S (qX nq) n) (h51 : S 100 51 = 1) (h61 : S 100 61 = nq) (hI : ∀ j : Nat, j < nq + 1 → QuSame I' I (qX j) 12) : QsR I' (mQry S) (nq + 1) := by
  obtain ⟨a1Z, a2, a3, a4⟩ := hT.1
  obtain ⟨m1Z, m2Z, m3Z, m4Z, m5Z, m6Z⟩ := mQryX (S := S) rfl h61 a1Z
  have e201 : ∀ t, 0 ≤ t → t < S 100 0 → mQry S 201 t = S 201 t := fun t _ _ => by rw [m1Z 201 (by decide) (by decide)]
  have e0Z : mQry S 100 0 = S 100 0 := m3Z 0 (by decide) (by decide) (by decide) (by decide)
  intro j hj
  by_cases eZ : j = nq
  · subst eZ
    have l : (wsT S 0 n).length = 1 := by have := hT.2.2.2.1.1; omega
    have hn : 1 ≤ n := by
      cases n with
      | zero => exact absurd (show (0 : Nat) = 1 from l) (by decide)
      | succ n => omega
    obtain ⟨⟨wZ, cZ⟩, hw⟩ := tw_len1 l
    have n12 := hT.2.1.1
    have smZ : OpSame (mQry S) S (12 * ((j : Int) + 1)) 0 n := fun i hi => by
      have ee : ∀ o, 256 ≤ o → o ≤ 260 → mQry S o (12 * ((j : Int) + 1) + i) = S o (0 + i) := fun o h1 h2 => by
        rw [m5Z o _ h1 h2, if_pos (by omega)]
        congr 1
        omega
      exact ⟨ee 256 (by decide) (by decide), ee 257 (by decide) (by decide), ee 258 (by decide) (by decide), ee 259 (by decide) (by decide), ee 260 (by decide) (by decide)⟩
    have su : QuSame I' I (qX j) n := ⟨(hI j hj).1, fun k hk => (hI j hj).2 k (by omega)⟩
    exact ⟨n, wZ, cZ, ⟨by rw [m6Z, if_pos rfl], hn⟩, smZ.qv hT.2.1 e201 (by omega), (smZ.ws hT.2.1 e201 n (Nat.le_refl _)).trans hw, hT.2.2.1.1.of su smZ hT.2.1 e201, hT.2.2.1.2.of su smZ⟩
  · exact h.of (fun i hi => hI i (by omega)) (fun o k h1 h2 h3 => by
      by_cases zZ : o = 262
      · subst zZ
        rw [m6Z, if_neg (by omega)]
      · by_cases yZ : o = 261
        · subst yZ
          unfold mQry mClears
          rw [up2_o _ _ _ _ (by decide), up2_o _ _ _ _ (by decide), up2_o _ _ _ _ (by decide), up2_o _ _ _ _ (by decide), up2_o _ _ _ _ (by decide)]
          exact if_neg (fun x => by have := x.1; omega)
        · rw [m5Z o k h1 (by omega), if_neg (by omega)]) e201 (by omega) j (by omega)
/-- the next one is empty -/
theorem TrR.next {x : Nat} (hT : TrR I S q n) (h61 : S 100 61 = nq) (hI : I' x 0 = 0 ∧ I' x 1 = 0 ∧ I' x 7 = 0) (h9 : ∀ j, 0 ≤ I' (x + 9) j ∧ I' (x + 9) j < 12) : TrR I' (mQry S) x 0 := by
  obtain ⟨m1Z, m2Z, m3Z, m4Z, m5Z, m6Z⟩ := mQryX (S := S) rfl h61 hT.1.1
  exact TrR.zero ⟨m4Z.1, m4Z.2.1, m4Z.2.2.1⟩ hI h9 (by rw [m1Z 254 (by decide) (by decide)]; exact hT.2.2.2.2.2.2.2.2)
/-- what is being built goes -/
theorem TrR.scrap (hT : TrR I S q n) (hI : I' q 0 = 0 ∧ I' q 1 = 0 ∧ I' q 7 = 0) (h9 : I' (q + 9) = I (q + 9)) : TrR I' (mClears S) q 0 := by
  unfold mClears
  refine TrR.zero ⟨?_, ?_, up2_eq _ _ _ _⟩ hI (by rw [h9]; exact hT.2.2.2.2.2.2.2.1) (fun k => ?_)
  · rw [up2_k _ _ _ _ (by decide), up2_k _ _ _ _ (by decide), up2_eq]
  · rw [up2_k _ _ _ _ (by decide), up2_eq]
  · rw [up2_o _ _ _ _ (by decide), up2_o _ _ _ _ (by decide), up2_o _ _ _ _ (by decide)]
    exact hT.2.2.2.2.2.2.2.2 k
end
