/-! how many records there may be: numbers -/
section
/-- what ended together: writes, transactions, deletes, inserts and updates, cells put again -/
abbrev Gp : Type := Nat × Nat × Nat × Nat × Nat
def gpS (f : Gp → Nat) : List Gp → Nat
  | [] => 0
  | g :: l => f g + gpS f l
def GpOK (ρ cap : Nat) (g : Gp) : Prop := (g.1 ≤ ρ * g.2.2.1 + g.2.2.2.1 ∧ g.1 ≤ g.2.2.1 + g.2.2.2.1 + g.2.2.2.2 + cap) ∧ 1 ≤ g.2.1
theorem GpOK.up {ρ ρ' cap cap' : Nat} {g : Gp} (h : GpOK ρ cap g) (h1 : ρ ≤ ρ') (h2 : cap ≤ cap') : GpOK ρ' cap' g := by
  have := Nat.mul_le_mul_right g.2.2.1 h1
  exact ⟨⟨by have := h.1.1; omega, by have := h.1.2; omega⟩, h.2⟩
theorem gp_id1 (R cap d : Int) : (2 * ((R + 1) * d) + 1) * (cap + 2 * R) + (4 * R + 3) * (cap - R * d) = (2 * cap * R + 2 * cap + R) * (d + 2) := by grind
theorem gp_id2 (R cap d : Int) : (2 * (d + cap) + 1) * (cap + 2 * R) + (2 * cap - 3) * (R * d - cap) = (2 * cap * R + 2 * cap + R) * (d + 2) := by grind
theorem gp_A {R cap d f : Int} (hR : 0 ≤ R) (hc : 2 ≤ cap) (h1 : f ≤ (R + 1) * d) (h2 : f ≤ d + cap) : (2 * f + 1) * (cap + 2 * R) ≤ (2 * cap * R + 2 * cap + R) * (d + 2) := by
  have pZ : 0 ≤ cap + 2 * R := by omega
  rcases Int.le_total (R * d) cap with hZ | hZ
  · have m1Z : (2 * f + 1) * (cap + 2 * R) ≤ (2 * ((R + 1) * d) + 1) * (cap + 2 * R) := Int.mul_le_mul_of_nonneg_right (by omega) pZ
    have m2Z : 0 ≤ (4 * R + 3) * (cap - R * d) := Int.mul_nonneg (by omega) (by omega)
    have := gp_id1 R cap d
    omega
  · have m1Z : (2 * f + 1) * (cap + 2 * R) ≤ (2 * (d + cap) + 1) * (cap + 2 * R) := Int.mul_le_mul_of_nonneg_right (by omega) pZ
    have m2Z : 0 ≤ (2 * cap - 3) * (R * d - cap) := Int.mul_nonneg (by omega) (by omega)
    have := gp_id2 R cap d
    omega
/-- the same for one that is under way -/
theorem gp_B {R cap d f : Int} (hR : 0 ≤ R) (hc : 2 ≤ cap) (hd : 0 ≤ d) (hf : 0 ≤ f) (h1 : f ≤ (R + 1) * d) (h2 : f ≤ d + cap) : f * (cap + 2 * R) ≤ (2 * cap * R + 2 * cap + R) * (d + 1) := by
  have aZ := gp_A hR hc h1 h2
  have pZ : 0 ≤ cap + 2 * R := by omega
  generalize hP : cap + 2 * R = p0 at *
  generalize hQ : 2 * cap * R + 2 * cap + R = q0 at *
  have i1Z : f * p0 * (d + 2) ≤ (2 * f + 1) * p0 * (d + 1) := by
    have eZ : (2 * f + 1) * p0 * (d + 1) - f * p0 * (d + 2) = p0 * (f * d + d + 1) := by grind
    have : 0 ≤ p0 * (f * d + d + 1) := Int.mul_nonneg pZ (by have := Int.mul_nonneg hf hd; omega)
    omega
  have i2Z : (2 * f + 1) * p0 * (d + 1) ≤ q0 * (d + 2) * (d + 1) := Int.mul_le_mul_of_nonneg_right aZ (by omega)
  have i3Z : f * p0 * (d + 2) ≤ q0 * (d + 1) * (d + 2) := by
    have eZ : q0 * (d + 2) * (d + 1) = q0 * (d + 1) * (d + 2) := by grind
    omega
  exact Int.le_of_mul_le_mul_right i3Z (by omega)
/-- the last step: rows r, cells cap -/
def fin1 (r cap : Nat) : Prop := 2 * r * (cap + 2 * (r - 1)) + (2 * cap * (r - 1) + 2 * cap + (r - 1)) * (512 - cap - 2 * r) < 16384 * (cap + 2 * (r - 1))
end
