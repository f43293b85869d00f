section
variable {K : KT} {P : PT} {J I : IT}
/-- a key that a transaction has read -/
def rdOf (I : IT) (i l : Nat) (t y : Int) : Prop := txRd I (tX i) (tX i + 40 + l) (tX i + 60 + l) t y = 1
theorem rdOf_iff {i l : Nat} {t y : Int} : rdOf I i l t y ↔ ∃ j : Int, 0 ≤ j ∧ j < I (tX i) 14 ∧ (I (tX i + 40 + l) j = t ∧ I (tX i + 60 + l) j = y) := by
  unfold rdOf txRd
  constructor
  · intro h
    refine Classical.byContradiction (fun q => ?_)
    rw [bI0 q] at h
    cases h
  · exact fun h => bI1 h
/-- what a read leaves as it was -/
def RkS (I I' : IT) (i m : Nat) : Prop := (∀ k, k ≠ 14 → I' (tX i) k = I (tX i) k) ∧ (I' (tX i) 14 ≤ I (tX i) 14 + 1 ∧ I (tX i) 14 ≤ I' (tX i) 14) ∧ I' (tX i + 13) = I (tX i + 13) ∧ I' (tX i + 33) = I (tX i + 33) ∧ I' (tX i + 80 + m) = I (tX i + 80 + m)
theorem rk_add {I0 : IT} {i l : Nat} {t y : Int} (h0 : 0 ≤ I0 (tX i) 14) : (∀ t' y', rdOf (txKey I0 (tX i) (tX i + 40 + l) (tX i + 60 + l) t y) i l t' y' ↔ rdOf I0 i l t' y' ∨ (t' = t ∧ y' = y)) := by
  intro t' y'
  rw [rdOf_iff, rdOf_iff]
  have e14 : txKey I0 (tX i) (tX i + 40 + l) (tX i + 60 + l) t y (tX i) 14 = I0 (tX i) 14 + 1 := up2_eq _ _ _ _
  have ea : ∀ j, txKey I0 (tX i) (tX i + 40 + l) (tX i + 60 + l) t y (tX i + 40 + l) j = if j = I0 (tX i) 14 then t else I0 (tX i + 40 + l) j := fun j => by
    unfold txKey
    rw [up2_o _ _ _ _ (by omega), up2_o _ _ _ _ (by omega)]
    unfold up2
    by_cases h : j = I0 (tX i) 14
    · rw [if_pos ⟨rfl, h⟩, if_pos h]
    · rw [if_neg (fun q => h q.2), if_neg h]
  have eb : ∀ j, txKey I0 (tX i) (tX i + 40 + l) (tX i + 60 + l) t y (tX i + 60 + l) j = if j = I0 (tX i) 14 then y else I0 (tX i + 60 + l) j := fun j => by
    unfold txKey
    rw [up2_o _ _ _ _ (by omega)]
    by_cases h : j = I0 (tX i) 14
    · rw [if_pos h, h, up2_eq]
    · rw [if_neg h, up2_k _ _ _ _ h, up2_o _ _ _ _ (by omega)]
  rw [e14]
  constructor
  · rintro ⟨j, j0, j1, h1, h2⟩
    rw [ea] at h1
    rw [eb] at h2
    by_cases h : j = I0 (tX i) 14
    · rw [if_pos h] at h1 h2
      exact Or.inr ⟨h1.symm, h2.symm⟩
    · rw [if_neg h] at h1 h2
      exact Or.inl ⟨j, j0, by omega, h1, h2⟩
  · rintro (⟨j, j0, j1, h1, h2⟩ | ⟨rfl, rfl⟩)
    · exact ⟨j, j0, by omega, by rw [ea, if_neg (by omega)]; exact h1, by rw [eb, if_neg (by omega)]; exact h2⟩
    · exact ⟨_, h0, by omega, by rw [ea, if_pos rfl], by rw [eb, if_pos rfl]⟩
theorem rk_same {I0 : IT} {i l m : Nat} {t y : Int} (hl : l < 20) (hN : (0 ≤ I0 (tX i) 14 ∧ I0 (tX i) 14 < 8 * 2 ^ l ∧ I0 (tX i) 14 < 100000 ∧ (l = 0 ∨ 4 * 2 ^ l ≤ I0 (tX i) 14)) ∧ (0 ≤ I0 (tX i) 17 ∧ I0 (tX i) 17 ≤ 8 * 2 ^ m ∧ I0 (tX i) 17 ≤ 100000 ∧ (m = 0 ∨ 4 * 2 ^ m < I0 (tX i) 17)) ∧ (∀ j, 0 ≤ j → j < I0 (tX i) 14 → 0 ≤ I0 (tX i + 40 + l) j ∧ I0 (tX i + 40 + l) j < 6) ∧ (0 ≤ I0 (tX i) 13 ∧ I0 (tX i) 13 < 64) ∧ ∀ j, 0 ≤ j → j < I0 (tX i) 17 → 0 ≤ I0 (tX i + 80 + m) j ∧ I0 (tX i + 80 + m) j < 12006) (ht : 0 ≤ t ∧ t < 6) : TxN (txKey I0 (tX i) (tX i + 40 + l) (tX i + 60 + l) t y) i l m ∧ RkS I0 (txKey I0 (tX i) (tX i + 40 + l) (tX i + 60 + l) t y) i m ∧ (∀ o, ¬ nTx i o → txKey I0 (tX i) (tX i + 40 + l) (tX i + 60 + l) t y o = I0 o) := by
  have e14 : txKey I0 (tX i) (tX i + 40 + l) (tX i + 60 + l) t y (tX i) 14 = I0 (tX i) 14 + 1 := up2_eq _ _ _ _
  have ek : ∀ k, k ≠ 14 → txKey I0 (tX i) (tX i + 40 + l) (tX i + 60 + l) t y (tX i) k = I0 (tX i) k := fun k hk => by
    unfold txKey
    rw [up2_k _ _ _ _ hk, up2_o _ _ _ _ (by omega), up2_o _ _ _ _ (by omega)]
  have eo : ∀ o, o ≠ tX i → o ≠ tX i + 40 + l → o ≠ tX i + 60 + l → txKey I0 (tX i) (tX i + 40 + l) (tX i + 60 + l) t y o = I0 o := fun o h1 h2 h3 => by
    funext k
    unfold txKey
    rw [up2_o _ _ _ _ h1, up2_o _ _ _ _ h3, up2_o _ _ _ _ h2]
  have ea : ∀ j, txKey I0 (tX i) (tX i + 40 + l) (tX i + 60 + l) t y (tX i + 40 + l) j = if j = I0 (tX i) 14 then t else I0 (tX i + 40 + l) j := fun j => by
    unfold txKey
    rw [up2_o _ _ _ _ (by omega), up2_o _ _ _ _ (by omega)]
    unfold up2
    by_cases h : j = I0 (tX i) 14
    · rw [if_pos ⟨rfl, h⟩, if_pos h]
    · rw [if_neg (fun q => h q.2), if_neg h]
  obtain ⟨h1, h2, h3, h4, h5⟩ := hN
  refine ⟨⟨by rw [e14]; omega, by rw [ek 17 (by decide)]; exact h2, fun j j0 j1 => ?_, by rw [ek 13 (by decide)]; exact h4, fun j j0 j1 => ?_⟩, ⟨ek, ⟨by omega, by omega⟩, eo _ (by omega) (by omega) (by omega), eo _ (by omega) (by omega) (by omega), ?_⟩, fun o ho => eo o (fun z => ho (by unfold nTx; omega)) (fun z => ho (by unfold nTx; omega)) (fun z => ho (by unfold nTx; omega))⟩
  · rw [ea]
    by_cases h : j = I0 (tX i) 14
    · rw [if_pos h]; exact ht
    · rw [if_neg h]; rw [e14] at j1; exact h3 j j0 (by omega)
  · rw [ek 17 (by decide)] at j1
    by_cases h : tX i + 80 + m = tX i + 60 + l
    · omega
    · rw [eo _ (by omega) (by omega) h]; exact h5 j j0 j1
  · exact eo _ (by omega) (by omega) (by omega)
theorem readKey_ex {i l m : Nat} {t y : Int} (hV : TxV K P i l m) (hN : TxN I i l m) (ht : 0 ≤ t ∧ t < 6) (hb : I (tX i) 14 < 100000) : ∃ (l' c n : Nat) (K' : KT) (P' : PT) (I' : IT), (TxV K' P' i l' m ∧ TxN I' i l' m) ∧ Fr (nTx i) K P I K' P' I' ∧ (c + 2 * l = 2 * l' ∧ n + ps l = ps l') ∧ RkS I I' i m ∧ (∀ t' y', rdOf I' i l' t' y' ↔ rdOf I i l t' y' ∨ (t' = t ∧ y' = y)) ∧ (rdOf I i l t y → I' (tX i) 14 = I (tX i) 14) ∧
    Sp m_Transaction_readKey false ({ frames := 2, cells := c, slots := n, locals := 90 } : Room) (ex K' P' J I' (.inl none)) K P J I [vR (some (tX i)), vI t, vI y] := by
  obtain ⟨hG, hR, hf1, hf2, hl, hm⟩ := hV
  have hN0 := hN
  obtain ⟨h1, h2, h3, h4, h5⟩ := hN
  have e2 : (((8 * 2 ^ l : Nat)) : Int) = 8 * 2 ^ l := by simp
  have nl : (2 : Nat) ^ l ≤ 2 ^ 13 ∨ ¬ (2 : Nat) ^ l ≤ 2 ^ 13 := Classical.em _
  have big : ((8 * 2 ^ l : Nat) : Int) ≤ 262144 := by
    have : (2 : Nat) ^ l ≤ 2 ^ 14 := Nat.pow_le_pow_right (by decide) (by omega)
    have : (2 : Nat) ^ 14 = 16384 := by decide
    omega
  by_cases hr : rdOf I i l t y
  · refine ⟨l, 0, 0, K, P, I, ⟨⟨hG, hR, hf1, hf2, hl, hm⟩, hN0⟩, Fr.rf, ⟨by omega, by omega⟩, ⟨fun _ _ => rfl, ⟨by omega, by omega⟩, rfl, rfl, rfl⟩, fun t' y' => ⟨Or.inl, fun q => q.elim id (fun q => by rw [q.1, q.2]; exact hr)⟩, fun _ => rfl, ?_⟩
    have s := sp_Transaction_readKey0 (J := J) (I := I) (t := t) (y := y) hG (by omega) (Or.inl hr)
    rw [show txRead I (tX i) (tX i + 40 + l) (tX i + 60 + l) t y = I from if_pos hr] at s
    exact s
  · by_cases hg : I (tX i) 14 < 8 * 2 ^ l
    · obtain ⟨r1, r2, r3⟩ := rk_same (I0 := I) (i := i) (l := l) (m := m) (t := t) (y := y) (by omega) ⟨⟨h1.1, hg, hb, h1.2.2.2.imp id (fun z => by omega)⟩, h2, h3, h4, h5⟩ ht
      refine ⟨l, 0, 0, K, P, _, ⟨⟨hG, hR, hf1, hf2, hl, hm⟩, r1⟩, fun o ho => ⟨rfl, rfl, r3 o ho⟩, ⟨by omega, by omega⟩, r2, rk_add h1.1, fun q => absurd q hr, ?_⟩
      have s := sp_Transaction_readKey0 (J := J) (I := I) (t := t) (y := y) hG (by omega) (Or.inr (by omega))
      rw [show txRead I (tX i) (tX i + 40 + l) (tX i + 60 + l) t y = _ from if_neg hr] at s
      exact s
    · have hl14 := lev_lt h1.2.2.1 (show I (tX i) 14 = 8 * 2 ^ l by omega)
      have ho := (hf1 (l + 1) (by omega) (by omega)).1
      have ho2 := (hf1 (l + 1) (by omega) (by omega)).2
      have pw : 0 < (2 : Nat) ^ l := Nat.pow_pos (by decide)
      have pe : 2 * (8 * 2 ^ l) = 8 * 2 ^ (l + 1) := by rw [Nat.pow_succ]; omega
      have s := sp_Transaction_readKey1 (J := J) (t := t) (y := y) hG (by omega) hr ho ho2 (by omega)
      rw [pe] at s
      let I0 : IT := cpyI (cpyI I (tX i + 40 + l) 0 (tX i + 40 + (l + 1)) 0 ((8 * 2 ^ l : Nat) : Int)) (tX i + 60 + l) 0 (tX i + 60 + (l + 1)) 0 ((8 * 2 ^ l : Nat) : Int)
      have eo : ∀ o, o ≠ tX i + 40 + (l + 1) → o ≠ tX i + 60 + (l + 1) → I0 o = I o := fun o q1 q2 => by
        funext k
        exact (if_neg (fun q => q2 q.1)).trans (if_neg (fun q => q1 q.1))
      have ea : ∀ j, 0 ≤ j → j < I (tX i) 14 → I0 (tX i + 40 + (l + 1)) j = I (tX i + 40 + l) j := fun j j0 j1 => by
        refine (if_neg (fun q => by have := q.1; omega)).trans ?_
        refine (if_pos ⟨rfl, j0, by omega⟩).trans ?_
        rw [show 0 + (j - 0) = j by omega]
      have eb : ∀ j, 0 ≤ j → j < I (tX i) 14 → I0 (tX i + 60 + (l + 1)) j = I (tX i + 60 + l) j := fun j j0 j1 => by
        refine (if_pos ⟨rfl, j0, by omega⟩).trans ?_
        rw [show 0 + (j - 0) = j by omega]
        exact if_neg (fun q => by have := q.1; omega)
      have ex0 : I0 (tX i) = I (tX i) := eo _ (by omega) (by omega)
      have e3 : (((8 * 2 ^ (l + 1) : Nat)) : Int) = 8 * 2 ^ (l + 1) := by simp
      obtain ⟨r1, r2, r3⟩ := rk_same (I0 := I0) (i := i) (l := l + 1) (m := m) (t := t) (y := y) (by omega) ⟨⟨by rw [ex0]; exact h1.1, by rw [ex0]; omega, by rw [ex0]; exact hb, Or.inr (by rw [ex0]; omega)⟩, by rw [ex0]; exact h2, fun j j0 j1 => by rw [ex0] at j1; rw [ea j j0 j1]; exact h3 j j0 j1, by rw [ex0]; exact h4, fun j j0 j1 => by rw [ex0] at j1; rw [eo _ (by omega) (by omega)]; exact h5 j j0 j1⟩ ht
      have rd0 : ∀ t' y', rdOf I0 i (l + 1) t' y' ↔ rdOf I i l t' y' := fun t' y' => by
        rw [rdOf_iff, rdOf_iff, ex0]
        constructor
        · rintro ⟨j, j0, j1, q1, q2⟩
          exact ⟨j, j0, j1, by rw [← ea j j0 j1]; exact q1, by rw [← eb j j0 j1]; exact q2⟩
        · rintro ⟨j, j0, j1, q1, q2⟩
          exact ⟨j, j0, j1, by rw [ea j j0 j1]; exact q1, by rw [eb j j0 j1]; exact q2⟩
      have k1 : ∀ o, o ≠ tX i + 40 + (l + 1) → o ≠ tX i + 60 + (l + 1) → upK (upK K (tX i + 40 + (l + 1)) (100, 8 * 2 ^ (l + 1))) (tX i + 60 + (l + 1)) (100, 8 * 2 ^ (l + 1)) o = K o := fun o q1 q2 => (upK_o _ _ q2).trans (upK_o _ _ q1)
      have p1 : ∀ o k, (o ≠ tX i ∨ (k ≠ 15 ∧ k ≠ 16)) → up2 (up2 P (tX i) 15 (some (tX i + 40 + (l + 1)))) (tX i) 16 (some (tX i + 60 + (l + 1))) o k = P o k := fun o k q => (if_neg (fun z => q.elim (fun y => y z.1) (fun y => y.2 z.2))).trans (if_neg (fun z => q.elim (fun y => y z.1) (fun y => y.1 z.2)))
      have kk : ∀ {o : Nat} {v : Nat × Nat}, K o = some v → o ≠ tX i + 40 + (l + 1) → o ≠ tX i + 60 + (l + 1) → upK (upK K (tX i + 40 + (l + 1)) (100, 8 * 2 ^ (l + 1))) (tX i + 60 + (l + 1)) (100, 8 * 2 ^ (l + 1)) o = some v := fun h q1 q2 => (k1 _ q1 q2).trans h
      refine ⟨l + 1, 2, 2 * (8 * 2 ^ (l + 1)), _, _, _, ⟨⟨⟨kk hG.1 (by omega) (by omega), (p1 _ _ (Or.inr (by decide))).trans hG.2.1, ⟨(p1 _ _ (Or.inr (by decide))).trans hG.2.2.1.1, kk hG.2.2.1.2 (by omega) (by omega)⟩, ⟨(up2_k _ _ _ _ (by decide)).trans (up2_eq _ _ _ _), (upK_o _ _ (by omega)).trans (upK_eq _ _ _)⟩, ⟨up2_eq _ _ _ _, upK_eq _ _ _⟩, (p1 _ _ (Or.inr (by decide))).trans hG.2.2.2.2.2.1, kk hG.2.2.2.2.2.2 (by omega) (by omega)⟩, ⟨kk hR.1 (by omega) (by omega), (p1 _ _ (Or.inl (by omega))).trans hR.2.1, kk hR.2.2 (by omega) (by omega)⟩, fun j j1 j2 => ⟨(k1 _ (by omega) (by omega)).trans (hf1 j (by omega) j2).1, (k1 _ (by omega) (by omega)).trans (hf1 j (by omega) j2).2⟩, fun j j1 j2 => (k1 _ (by omega) (by omega)).trans (hf2 j j1 j2), by omega, hm⟩, r1⟩, fun o ho => ⟨k1 o (fun z => ho (by unfold nTx; omega)) (fun z => ho (by unfold nTx; omega)), funext (fun k => p1 o k (Or.inl (fun z => ho (by unfold nTx; omega)))), (r3 o ho).trans (eo o (fun z => ho (by unfold nTx; omega)) (fun z => ho (by unfold nTx; omega)))⟩, ⟨by omega, by have := ps_up l; rw [← pe]; omega⟩, ?_, fun t' y' => (rk_add (by rw [ex0]; exact h1.1) t' y').trans (by rw [rd0]), fun q => absurd q hr, s⟩
      obtain ⟨q1, q2, q3, q4, q5⟩ := r2
      rw [ex0] at q2
      exact ⟨fun k hk => by rw [q1 k hk, ex0], q2, q3.trans (eo _ (by omega) (by omega)), q4.trans (eo _ (by omega) (by omega)), q5.trans (eo _ (by omega) (by omega))⟩
end
