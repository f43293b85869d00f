/-! the schema in class and reference: a table more -/
section
variable {I I' S S' : IT} {x : Int}
theorem sch_table (h : RSch I S ∧ SSch S) (hx : 1 ≤ x ∧ x ≤ 4) (h6 : S 100 0 < 6) (hI : I' 1032 0 = I 1032 0 + 1 ∧ I' 1032 6 = I 1032 6 ∧ (∀ t, I' 1034 t = if t = I 1032 0 then x else I 1034 t) ∧ ∀ o, 1035 ≤ o → o ≤ 1040 → I' o = I o)
    (hS : S' 100 0 = S 100 0 + 1 ∧ S' 100 8 = S 100 8 ∧ (∀ t, S' 201 t = if t = S 100 0 then x else S 201 t) ∧ ∀ o, 202 ≤ o → o ≤ 213 → S' o = S o) : RSch I' S' ∧ SSch S' := by
  obtain ⟨⟨a1, a2, a3, a4, a5, a6⟩, ⟨b1, b2, b3, b4, b5, b6, b7, b8, b9⟩⟩ := h
  obtain ⟨i0, i6, i34, io⟩ := hI
  obtain ⟨s0, s8, s1, so⟩ := hS
  have e : ∀ o, 202 ≤ o → o ≤ 213 → S' o = S o := so
  have n202 := b3 (S 100 0) (Int.le_refl _) h6
  refine ⟨⟨by rw [i0, s0, a1], fun t t0 t1 => ?_, fun t j t0 t1 j0 j1 => ?_, fun c c0 c1 => ?_, by rw [i6, s8]; exact a5, fun j j0 j1 => ?_⟩, ⟨by omega, fun t t0 t1 => ?_, fun t t0 t1 => ?_, fun t t0 t1 => ?_, fun t j t0 t1 j0 j1 => ?_, fun t c t0 t1 c0 c1 => ?_, by rw [s8]; exact b7, fun j => by rw [e 211 (by decide) (by decide)]; exact b8 j, fun k => by rw [e 206 (by decide) (by decide)]; exact b9 k⟩⟩
  · rw [i34, s1, a1, io 1035 (by decide) (by decide), e 202 (by decide) (by decide)]
    refine ⟨?_, (a2 t t0 t1).2⟩
    by_cases c : t = S 100 0
    · rw [if_pos c, if_pos c]
    · rw [if_neg c, if_neg c]; exact (a2 t t0 t1).1
  · rw [e 202 (by decide) (by decide)] at j1
    rw [io 1036 (by decide) (by decide), e 203 (by decide) (by decide), e 204 (by decide) (by decide), e 205 (by decide) (by decide)]
    exact a3 t j t0 t1 j0 j1
  · rw [io 1037 (by decide) (by decide), io 1038 (by decide) (by decide), e 206 (by decide) (by decide), e 207 (by decide) (by decide)]
    exact a4 c c0 c1
  · rw [s8] at j1
    rw [io 1040 (by decide) (by decide), e 209 (by decide) (by decide), e 210 (by decide) (by decide), e 211 (by decide) (by decide), e 212 (by decide) (by decide), e 213 (by decide) (by decide)]
    exact a6 j j0 j1
  · rw [s1]
    by_cases c : t = S 100 0
    · rw [if_pos c]; exact hx
    · rw [if_neg c]; exact b2 t t0 (by omega)
  · rw [s1, e 202 (by decide) (by decide), if_neg (by omega)]
    exact b3 t (by omega) t1
  · rw [e 202 (by decide) (by decide)]; exact b4 t t0 t1
  · rw [e 202 (by decide) (by decide)] at j1
    have tn : t ≠ S 100 0 := fun z => by rw [z] at j1; omega
    rw [e 203 (by decide) (by decide), s1, if_neg tn]
    exact b5 t j t0 t1 j0 j1
  · rw [e 206 (by decide) (by decide)]
    rcases b6 t c t0 t1 c0 c1 with w | ⟨w1, w2, w3, w4, w5⟩
    · exact Or.inl w
    · refine Or.inr ⟨by omega, w2, ?_, w4, by omega⟩
      rw [s1, if_neg (by omega)]; exact w3
end
