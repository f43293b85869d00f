/-! the schema in class and reference: a reference more, a veil more -/
section
variable {I I' S S' : IT} {t c o w v r : Int}
theorem sch_refer (h : RSch I S ∧ SSch S) (ht : 0 ≤ t ∧ t < S 100 0) (hc : 1 ≤ c ∧ c < S 201 t) (ho : 0 ≤ o ∧ o < S 100 0)
    (hI : (∀ z, I' 1037 z = if z = t * 4 + c then o else I 1037 z) ∧ (∀ z, I' 1038 z = if z = t * 4 + c then w else I 1038 z) ∧ ∀ a, 1032 ≤ a → a ≤ 1040 → a ≠ 1037 → a ≠ 1038 → I' a = I a)
    (hS : (∀ z, S' 206 z = if z = 4 * t + c then o else S 206 z) ∧ (∀ z, S' 207 z = if z = 4 * t + c then w else S 207 z) ∧ (∀ a, 201 ≤ a → a ≤ 213 → a ≠ 206 → a ≠ 207 → S' a = S a) ∧ S' 100 0 = S 100 0 ∧ S' 100 8 = S 100 8) : RSch I' S' ∧ SSch S' := by
  obtain ⟨⟨a1, a2, a3, a4, a5, a6⟩, ⟨b1, b2, b3, b4, b5, b6, b7, b8, b9⟩⟩ := h
  obtain ⟨i37, i38, io⟩ := hI
  obtain ⟨s6, s7, so, s0, s8⟩ := hS
  have I32 := io 1032 (by decide) (by decide) (by decide) (by decide)
  have S1 := so 201 (by decide) (by decide) (by decide) (by decide)
  have S2 := so 202 (by decide) (by decide) (by decide) (by decide)
  have S3 := so 203 (by decide) (by decide) (by decide) (by decide)
  refine ⟨⟨by rw [I32, s0]; exact a1, fun t' t0 t1 => ?_, fun t' j t0 t1 j0 j1 => ?_, fun z z0 z1 => ?_, by rw [I32, s8]; exact a5, fun j j0 j1 => ?_⟩, ⟨by rw [s0]; exact b1, fun t' t0 t1 => by rw [S1]; rw [s0] at t1; exact b2 t' t0 t1, fun t' t0 t1 => by rw [S1, S2]; rw [s0] at t0; exact b3 t' t0 t1, fun t' t0 t1 => by rw [S2]; exact b4 t' t0 t1, fun t' j t0 t1 j0 j1 => by rw [S3, S1]; rw [S2] at j1; exact b5 t' j t0 t1 j0 j1, fun t' c' t0 t1 c0 c1 => ?_, by rw [s8]; exact b7, fun j => by rw [so 211 (by decide) (by decide) (by decide) (by decide)]; exact b8 j, fun k => ?_⟩⟩
  · rw [io 1034 (by decide) (by decide) (by decide) (by decide), io 1035 (by decide) (by decide) (by decide) (by decide), S1, S2]
    exact a2 t' t0 t1
  · rw [S2] at j1
    rw [io 1036 (by decide) (by decide) (by decide) (by decide), S3, so 204 (by decide) (by decide) (by decide) (by decide), so 205 (by decide) (by decide) (by decide) (by decide)]
    exact a3 t' j t0 t1 j0 j1
  · rw [i37, i38, s6, s7]
    by_cases e : z = t * 4 + c
    · rw [if_pos e, if_pos e, if_pos (show z = 4 * t + c by omega), if_pos (show z = 4 * t + c by omega)]
      exact ⟨rfl, rfl⟩
    · rw [if_neg e, if_neg e, if_neg (show ¬ z = 4 * t + c by omega), if_neg (show ¬ z = 4 * t + c by omega)]
      exact a4 z z0 z1
  · rw [s8] at j1
    rw [io 1040 (by decide) (by decide) (by decide) (by decide), so 209 (by decide) (by decide) (by decide) (by decide), so 210 (by decide) (by decide) (by decide) (by decide), so 211 (by decide) (by decide) (by decide) (by decide), so 212 (by decide) (by decide) (by decide) (by decide), so 213 (by decide) (by decide) (by decide) (by decide)]
    exact a6 j j0 j1
  · rw [s6, s0, S1]
    by_cases e : 4 * t' + c' = 4 * t + c
    · rw [if_pos e]
      have col := b2 t ht.1 ht.2
      have e1 : t' = t := by omega
      have e2 : c' = c := by omega
      rw [e1, e2]
      exact Or.inr ⟨ht.2, hc.1, hc.2, ho.1, ho.2⟩
    · rw [if_neg e]; exact b6 t' c' t0 t1 c0 c1
  · rw [s6]
    by_cases e : k = 4 * t + c
    · rw [if_pos e]; exact Or.inr ⟨ho.1, by omega⟩
    · rw [if_neg e]; exact b9 k
theorem sch_veil (h : RSch I S ∧ SSch S) (h12 : S 100 8 < 12) (hc : 0 ≤ c ∧ c < 4)
    (hI : I' 1032 0 = I 1032 0 ∧ I' 1032 6 = I 1032 6 + 1 ∧ (∀ z, I' 1040 z = if z = I 1032 6 * 5 then r else if z = I 1032 6 * 5 + 1 then t else if z = I 1032 6 * 5 + 2 then c else if z = I 1032 6 * 5 + 3 then w else if z = I 1032 6 * 5 + 4 then v else I 1040 z) ∧ ∀ a, 1033 ≤ a → a ≤ 1039 → I' a = I a)
    (hS : S' 100 0 = S 100 0 ∧ S' 100 8 = S 100 8 + 1 ∧ (∀ z, S' 209 z = if z = S 100 8 then r else S 209 z) ∧ (∀ z, S' 210 z = if z = S 100 8 then t else S 210 z) ∧ (∀ z, S' 211 z = if z = S 100 8 then c else S 211 z) ∧ (∀ z, S' 212 z = if z = S 100 8 then w else S 212 z) ∧ (∀ z, S' 213 z = if z = S 100 8 then v else S 213 z) ∧ ∀ a, 201 ≤ a → a ≤ 208 → S' a = S a) : RSch I' S' ∧ SSch S' := by
  obtain ⟨⟨a1, a2, a3, a4, a5, a6⟩, ⟨b1, b2, b3, b4, b5, b6, b7, b8, b9⟩⟩ := h
  obtain ⟨i0, i6, i40, io⟩ := hI
  obtain ⟨s0, s8, s9, s10, s11, s12, s13, so⟩ := hS
  have S1 := so 201 (by decide) (by decide)
  have S2 := so 202 (by decide) (by decide)
  have S3 := so 203 (by decide) (by decide)
  have S6 := so 206 (by decide) (by decide)
  refine ⟨⟨by rw [i0, s0]; exact a1, fun t' t0 t1 => ?_, fun t' j t0 t1 j0 j1 => ?_, fun z z0 z1 => ?_, by rw [i6, s8, a5], fun j j0 j1 => ?_⟩, ⟨by rw [s0]; exact b1, fun t' t0 t1 => by rw [S1]; rw [s0] at t1; exact b2 t' t0 t1, fun t' t0 t1 => by rw [S1, S2]; rw [s0] at t0; exact b3 t' t0 t1, fun t' t0 t1 => by rw [S2]; exact b4 t' t0 t1, fun t' j t0 t1 j0 j1 => by rw [S3, S1]; rw [S2] at j1; exact b5 t' j t0 t1 j0 j1, fun t' c' t0 t1 c0 c1 => by rw [S6, s0, S1]; exact b6 t' c' t0 t1 c0 c1, by omega, fun j => ?_, fun k => by rw [S6]; exact b9 k⟩⟩
  · rw [io 1034 (by decide) (by decide), io 1035 (by decide) (by decide), S1, S2]
    exact a2 t' t0 t1
  · rw [S2] at j1
    rw [io 1036 (by decide) (by decide), S3, so 204 (by decide) (by decide), so 205 (by decide) (by decide)]
    exact a3 t' j t0 t1 j0 j1
  · rw [io 1037 (by decide) (by decide), io 1038 (by decide) (by decide), S6, so 207 (by decide) (by decide)]
    exact a4 z z0 z1
  · rw [s9, s10, s11, s12, s13]
    simp only [i40]
    rw [a5]
    by_cases e : j = S 100 8
    · rw [if_pos e, if_pos e, if_pos e, if_pos e, if_pos e, e]
      exact ⟨if_pos rfl, (if_neg (by omega)).trans (if_pos rfl), (if_neg (by omega)).trans ((if_neg (by omega)).trans (if_pos rfl)), (if_neg (by omega)).trans ((if_neg (by omega)).trans ((if_neg (by omega)).trans (if_pos rfl))), (if_neg (by omega)).trans ((if_neg (by omega)).trans ((if_neg (by omega)).trans ((if_neg (by omega)).trans (if_pos rfl))))⟩
    · rw [if_neg e, if_neg e, if_neg e, if_neg e, if_neg e]
      have k : ∀ z, j * 5 ≤ z → z < j * 5 + 5 → (if z = S 100 8 * 5 then r else if z = S 100 8 * 5 + 1 then t else if z = S 100 8 * 5 + 2 then c else if z = S 100 8 * 5 + 3 then w else if z = S 100 8 * 5 + 4 then v else I 1040 z) = I 1040 z := fun z z0 z1 => (if_neg (by omega)).trans ((if_neg (by omega)).trans ((if_neg (by omega)).trans ((if_neg (by omega)).trans (if_neg (by omega)))))
      rw [k _ (by omega) (by omega), k _ (by omega) (by omega), k _ (by omega) (by omega), k _ (by omega) (by omega), k _ (by omega) (by omega)]
      exact a6 j j0 (by omega)
  · rw [s11]
    by_cases e : j = S 100 8
    · rw [if_pos e]; exact hc
    · rw [if_neg e]; exact b8 j
end
