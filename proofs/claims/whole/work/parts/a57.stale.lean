section
variable {K : KT} {P : PT} {J I : IT}
/-- the ends of a list's get, by its place -/
theorem EnL.fr {K' : KT} {P' : PT} {I' : IT} {n lq : Nat} {lv mv lv' mv' : Nat → Nat} (h : EnL K P I n lq lv mv) (hk : ∀ o, (o = 1448 ∨ (12100 < o ∧ o < 12120)) → K' o = K o ∧ P' o = P o ∧ I' o = I o) (h9 : K' 999 = K 999 ∧ P' 999 = P 999) (ht : ∀ j, j < n → TxV K' P' j (lv' j) (mv' j)) : EnL K' P' I' n lq lv' mv' := by
  obtain ⟨⟨⟨a1, a2, a3⟩, b, c, d, e⟩, h60, f⟩ := h
  have h48 := hk 1448 (Or.inl rfl)
  have hd : K' (ldn 12100 lq) = K (ldn 12100 lq) ∧ P' (ldn 12100 lq) = P (ldn 12100 lq) := by
    unfold ldn
    split
    · exact h9
    · have := hk (12100 + lq) (Or.inr (by omega))
      exact ⟨this.1, this.2.1⟩
  refine ⟨⟨⟨by rw [h48.1]; exact a1, by rw [h48.2.1]; exact a2, by rw [hd.1]; exact a3⟩, fun j j0 j1 => by rw [(hk (12100 + j) (Or.inr (by omega))).1]; exact b j j0 j1, c, by rw [h48.2.2]; exact d, fun i q i0 i1 hq => ?_⟩, h60, fun j hj => ⟨by rw [hd.2]; exact (f j hj).1, ht j hj⟩⟩
  have hf := (f i.toNat (by omega)).1
  rw [show ((i.toNat : Nat) : Int) = i by omega] at hf
  rw [hd.2, hf] at hq
  rw [← Option.some.inj hq]
  exact ⟨0, (ht i.toNat (by omega)).1.1⟩
end
