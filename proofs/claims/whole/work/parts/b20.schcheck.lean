/-! the schema in class and reference: a check more, a veil more, a reference more -/
section
variable {I I' S S' : IT} {t c w v : Int}
theorem sch_check (h : RSch I S ∧ SSch S) (ht : 0 ≤ t ∧ t < S 100 0) (hc : 0 ≤ c ∧ c < S 201 t) (h4 : S 202 t < 4)
    (hI : (∀ k, I' 1035 k = if k = t then I 1035 t + 1 else I 1035 k) ∧ (∀ z, I' 1036 z = if z = (t * 4 + I 1035 t) * 3 then c else if z = (t * 4 + I 1035 t) * 3 + 1 then w else if z = (t * 4 + I 1035 t) * 3 + 2 then v else I 1036 z) ∧ ∀ o, 1032 ≤ o → o ≤ 1040 → o ≠ 1035 → o ≠ 1036 → I' o = I o)
    (hS : (∀ k, S' 202 k = if k = t then S 202 t + 1 else S 202 k) ∧ (∀ z, S' 203 z = if z = 4 * t + S 202 t then c else S 203 z) ∧ (∀ z, S' 204 z = if z = 4 * t + S 202 t then w else S 204 z) ∧ (∀ z, S' 205 z = if z = 4 * t + S 202 t then v else S 205 z) ∧ S' 201 = S 201 ∧ (∀ o, 206 ≤ o → o ≤ 213 → S' o = S o) ∧ S' 100 0 = S 100 0 ∧ S' 100 8 = S 100 8) : RSch I' S' ∧ SSch S' := by
  obtain ⟨⟨a1, a2, a3, a4, a5, a6⟩, ⟨b1, b2, b3, b4, b5, b6, b7, b8, b9⟩⟩ := h
  obtain ⟨i35, i36, io⟩ := hI
  obtain ⟨s2, s3, s4, s5, s1, so, s0, s8⟩ := hS
  have n0 := b4 t ht.1 (by omega)
  have e35 := (a2 t ht.1 (by omega)).2
  refine ⟨⟨by rw [io 1032 (by decide) (by decide) (by decide) (by decide), s0]; exact a1, fun t' t0 t1 => ?_, fun t' j t0 t1 j0 j1 => ?_, fun c c0 c1 => ?_, by rw [io 1032 (by decide) (by decide) (by decide) (by decide), s8]; exact a5, fun j j0 j1 => ?_⟩, ⟨by rw [s0]; exact b1, fun t' t0 t1 => by rw [s1]; rw [s0] at t1; exact b2 t' t0 t1, fun t' t0 t1 => ?_, fun t' t0 t1 => ?_, fun t' j t0 t1 j0 j1 => ?_, fun t' c t0 t1 c0 c1 => by rw [so 206 (by decide) (by decide), s0, s1]; exact b6 t' c t0 t1 c0 c1, by rw [s8]; exact b7, fun j => by rw [so 211 (by decide) (by decide)]; exact b8 j, fun k => by rw [so 206 (by decide) (by decide)]; exact b9 k⟩⟩
  · rw [io 1034 (by decide) (by decide) (by decide) (by decide), s1, i35, s2]
    refine ⟨(a2 t' t0 t1).1, ?_⟩
    by_cases e : t' = t
    · rw [if_pos e, if_pos e, e35]
    · rw [if_neg e, if_neg e]; exact (a2 t' t0 t1).2
  · rw [s2] at j1
    rw [i36, i36, i36, s3, s4, s5, e35]
    by_cases e : t' = t ∧ j = S 202 t
    · rw [e.1, e.2]
      exact ⟨(if_pos rfl).trans (if_pos rfl).symm, ((if_neg (by omega)).trans (if_pos rfl)).trans (if_pos rfl).symm, ((if_neg (by omega)).trans ((if_neg (by omega)).trans (if_pos rfl))).trans (if_pos rfl).symm⟩
    · have n4 := b4 t' t0 t1
      have j4 : j < 4 ∧ j < S 202 t' := by
        by_cases e2 : t' = t
        · rw [if_pos e2] at j1
          rw [e2]
          have : j ≠ S 202 t := fun z => e ⟨e2, z⟩
          omega
        · rw [if_neg e2] at j1
          omega
      have ne : ¬ (t' * 4 + j = t * 4 + S 202 t) := fun z => e (by omega)
      rw [if_neg (by omega), if_neg (by omega), if_neg (by omega), if_neg (by omega), if_neg (by omega), if_neg (by omega), if_neg (by omega), if_neg (by omega), if_neg (by omega), if_neg (by omega), if_neg (by omega), if_neg (by omega)]
      exact a3 t' j t0 t1 j0 j4.2
  · rw [io 1037 (by decide) (by decide) (by decide) (by decide), io 1038 (by decide) (by decide) (by decide) (by decide), so 206 (by decide) (by decide), so 207 (by decide) (by decide)]
    exact a4 c c0 c1
  · rw [s8] at j1
    rw [io 1040 (by decide) (by decide) (by decide) (by decide), so 209 (by decide) (by decide), so 210 (by decide) (by decide), so 211 (by decide) (by decide), so 212 (by decide) (by decide), so 213 (by decide) (by decide)]
    exact a6 j j0 j1
  · rw [s0] at t0
    rw [s1, s2, if_neg (by omega)]
    exact b3 t' t0 t1
  · rw [s2]
    by_cases e : t' = t
    · rw [if_pos e]; omega
    · rw [if_neg e]; exact b4 t' t0 t1
  · rw [s2] at j1
    rw [s3, s1]
    have n4 := b4 t' t0 t1
    by_cases e : t' = t ∧ j = S 202 t
    · rw [e.1, e.2, if_pos rfl]; exact hc
    · have j4 : j < 4 ∧ j < S 202 t' := by
        by_cases e2 : t' = t
        · rw [if_pos e2] at j1
          rw [e2]
          have : j ≠ S 202 t := fun z => e ⟨e2, z⟩
          omega
        · rw [if_neg e2] at j1
          omega
      have ne : ¬ (4 * t' + j = 4 * t + S 202 t) := fun z => e (by omega)
      rw [if_neg ne]
      exact b5 t' j t0 t1 j0 j4.2
end
