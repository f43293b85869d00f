/-! how many records there may be: the end of the sum -/
section
theorem gq_ble (R cap r m : Nat) (hR : R = min 48 r - 1) (hr : 2 ≤ r) (hc : 2 ≤ cap) (h3 : cap ≤ 3 * r) (hm : cap + 2 * r + m ≤ 512) : 2 * r * (cap + 2 * R) + (2 * cap * R + 2 * cap + R) * m < 16320 * (cap + 2 * R) := by
  have mono : ∀ a b : Nat, a ≤ b → (2 * cap * R + 2 * cap + R) * a ≤ (2 * cap * R + 2 * cap + R) * b := fun a b h => Nat.mul_le_mul_left _ h
  by_cases h48 : r ≤ 48
  · have e : R = r - 1 := by omega
    have b := finB_le hc (finL_at 145 (finR_at 49 fin_low r (by omega)) cap (by omega))
    rw [← e] at b
    have := mono m (512 - cap - 2 * r) (by omega)
    omega
  · have e : R = 48 - 1 := by omega
    have b := finB_le hc (finL_at 420 fin_high cap (by omega))
    rw [← e] at b
    have m1 := mono (m + 2 * (r - 48)) (512 - cap - 2 * 48) (by omega)
    have qp : cap + 2 * R ≤ 2 * cap * R + 2 * cap + R := by
      have : 2 * R ≤ cap * R := Nat.mul_le_mul_right _ hc
      have e : 2 * cap * R = 2 * (cap * R) := Nat.mul_assoc _ _ _
      omega
    generalize cap + 2 * R = p at *
    generalize 2 * cap * R + 2 * cap + R = q at *
    have m2 : p * (2 * (r - 48)) ≤ q * (2 * (r - 48)) := Nat.mul_le_mul_right _ qp
    have i1 : q * (m + 2 * (r - 48)) = q * m + q * (2 * (r - 48)) := Nat.mul_add _ _ _
    have i2 : 2 * r * p = 2 * 48 * p + p * (2 * (r - 48)) := by
      obtain ⟨x, hx⟩ : ∃ x, r = 48 + x := ⟨r - 48, by omega⟩
      have : r - 48 = x := by omega
      rw [this, hx]
      grind
    omega
/-- all records: groups E that ended, one that is under way -/
theorem num_ok {cap r k cB chk W0 t0 D0 b0 : Nat} {E : List Gq} (h4 : cap ≤ 3 * r) (hE : ∀ g, g ∈ E → GqOK (min 48 r) cap g) (hO : W0 ≤ min 48 r * D0 + b0 ∧ W0 ≤ D0 + b0 + cap) (hO2 : t0 = 0 → W0 = 0) (hk : cap + 2 * r + cB + chk + gqS gqC E + (t0 + D0) ≤ k) (hb : gqS gqB E + b0 ≤ r + 2 * cB) (k5 : k ≤ 512) : gqS gqW E + W0 + chk < 16320 := by
  by_cases hs : r < 2 ∨ cap < 2
  · have low := gq_low E (fun g hg => by
      obtain ⟨⟨h1, h2⟩, -⟩ := hE g hg
      rcases hs with z | z
      · have : min 48 r * g.2.2.1 ≤ 1 * g.2.2.1 := Nat.mul_le_mul_right _ (by omega)
        omega
      · omega)
    have w0 : W0 ≤ D0 + b0 + 1 := by
      rcases hs with z | z
      · have : min 48 r * D0 ≤ 1 * D0 := Nat.mul_le_mul_right _ (by omega)
        omega
      · omega
    omega
  · have hr : 2 ≤ r := by omega
    have hc : 2 ≤ cap := by omega
    obtain ⟨R, hR⟩ : ∃ R, R = min 48 r - 1 := ⟨_, rfl⟩
    have eR : min 48 r = R + 1 := by omega
    rw [eR] at hE hO
    have sumZ := gq_sum hc E hE
    have fin := gq_ble R cap r (k - cap - 2 * r) hR hr hc h4 (by omega)
    have finZ : 2 * (r : Int) * ((cap : Int) + 2 * R) + (2 * (cap : Int) * R + 2 * cap + R) * ((k : Int) - cap - 2 * r) < 16320 * ((cap : Int) + 2 * R) := by
      have e : ((k - cap - 2 * r : Nat) : Int) = (k : Int) - cap - 2 * r := by omega
      rw [← e]
      generalize k - cap - 2 * r = m at *
      obtain ⟨M, hM⟩ : ∃ M : Nat, M = 16320 := ⟨_, rfl⟩
      rw [← hM] at fin
      have lt := Int.ofNat_lt.mpr fin
      have eM : (16320 : Int) = (M : Int) := by omega
      rw [eM]
      simp only [Int.natCast_add, Int.natCast_mul] at lt
      exact lt
    have pZ : 0 ≤ (cap : Int) + 2 * R := by omega
    have qpZ : (cap : Int) + 2 * R ≤ 2 * (cap : Int) * R + 2 * cap + R := by
      have : 2 * (R : Int) ≤ (cap : Int) * R := Int.mul_le_mul_of_nonneg_right (by omega) (by omega)
      have e : 2 * (cap : Int) * R = 2 * ((cap : Int) * R) := Int.mul_assoc _ _ _
      omega
    have openZ : (W0 : Int) * ((cap : Int) + 2 * R) ≤ (2 * (cap : Int) * R + 2 * cap + R) * ((t0 : Int) + D0) + ((cap : Int) + 2 * R) * b0 := by
      by_cases y : t0 = 0
      · rw [hO2 y]
        have a1 : 0 ≤ (2 * (cap : Int) * R + 2 * cap + R) * ((t0 : Int) + D0) := Int.mul_nonneg (by omega) (by omega)
        have a2 : 0 ≤ ((cap : Int) + 2 * R) * b0 := Int.mul_nonneg pZ (by omega)
        have e : ((0 : Nat) : Int) = 0 := rfl
        rw [e, Int.zero_mul]
        omega
      · have q0 : 0 ≤ 2 * (cap : Int) * R + 2 * cap + R := by omega
        have mono : (2 * (cap : Int) * R + 2 * cap + R) * ((D0 : Int) + 1) ≤ (2 * (cap : Int) * R + 2 * cap + R) * ((t0 : Int) + D0) := Int.mul_le_mul_of_nonneg_left (by omega) q0
        by_cases z : W0 ≤ b0
        · have a1 : (W0 : Int) * ((cap : Int) + 2 * R) ≤ (b0 : Int) * ((cap : Int) + 2 * R) := Int.mul_le_mul_of_nonneg_right (by omega) pZ
          have a2 : 0 ≤ (2 * (cap : Int) * R + 2 * cap + R) * ((t0 : Int) + D0) := Int.mul_nonneg q0 (by omega)
          have e : (b0 : Int) * ((cap : Int) + 2 * R) = ((cap : Int) + 2 * R) * b0 := Int.mul_comm _ _
          omega
        · have h1Z : (W0 : Int) - b0 ≤ ((R : Int) + 1) * D0 := by
            have : ((W0 : Nat) : Int) ≤ (((R + 1) * D0 + b0 : Nat) : Int) := by omega
            rw [Int.natCast_add, Int.natCast_mul, Int.natCast_add] at this
            have e : ((1 : Nat) : Int) = 1 := rfl
            rw [e] at this
            omega
          have b := gp_B (R := (R : Int)) (cap := (cap : Int)) (d := (D0 : Int)) (f := (W0 : Int) - b0) (by omega) (by omega) (by omega) (by omega) h1Z (by omega)
          have e : (W0 : Int) * ((cap : Int) + 2 * R) = ((W0 : Int) - b0) * ((cap : Int) + 2 * R) + ((cap : Int) + 2 * R) * b0 := by grind
          omega
    have kZ : ((gqS gqC E : Nat) : Int) + ((t0 : Int) + D0) ≤ ((k : Int) - cap - 2 * r) - cB - chk := by omega
    have bZ : ((gqS gqB E : Nat) : Int) + b0 ≤ (r : Int) + 2 * cB := by omega
    have m0 : 0 ≤ ((k : Int) - cap - 2 * r) - cB - chk := by omega
    have m5 : (k : Int) - cap - 2 * r ≤ 512 := by omega
    have r5 : (r : Int) ≤ 256 := by omega
    have goal : ((gqS gqW E : Nat) : Int) + W0 + chk < 16320 := by
      generalize ((gqS gqW E : Nat) : Int) = T at *
      generalize ((gqS gqC E : Nat) : Int) = C at *
      generalize hB : ((gqS gqB E : Nat) : Int) = B at *
      have p1 : 0 < (cap : Int) + 2 * R := by omega
      generalize (cap : Int) + 2 * R = p at *
      generalize 2 * (cap : Int) * R + 2 * cap + R = q at *
      generalize (k : Int) - cap - 2 * r = m at *
      have s1 : q * (C + ((t0 : Int) + D0)) ≤ q * (m - cB - chk) := Int.mul_le_mul_of_nonneg_left kZ (by omega)
      have s2 : (2 * p) * (B + b0) ≤ (2 * p) * ((r : Int) + 2 * cB) := Int.mul_le_mul_of_nonneg_left bZ (by omega)
      have b00 : 0 ≤ p * b0 := Int.mul_nonneg pZ (by omega)
      have i1 : (T + W0 + chk) * p = T * p + W0 * p + chk * p := by grind
      have i2 : q * (C + ((t0 : Int) + D0)) = q * C + q * ((t0 : Int) + D0) := Int.mul_add _ _ _
      have i3 : (2 * p) * (B + b0) = 2 * p * B + 2 * (p * b0) := by grind
      have tot : (T + W0 + chk) * p ≤ q * (m - cB - chk) + (2 * p) * ((r : Int) + 2 * cB) + chk * p := by omega
      have lt : (T + W0 + chk) * p < 16320 * p := by
        rcases Int.le_total (4 * p) q with y | y
        · have c1 : (4 * p) * cB ≤ q * cB := Int.mul_le_mul_of_nonneg_right y (by omega)
          have c2 : p * chk ≤ q * chk := Int.mul_le_mul_of_nonneg_right qpZ (by omega)
          have j1 : q * (m - cB - chk) = q * m - q * cB - q * chk := by grind
          have j2 : (2 * p) * ((r : Int) + 2 * cB) = 2 * r * p + (4 * p) * cB := by grind
          have j3 : (chk : Int) * p = p * chk := Int.mul_comm _ _
          omega
        · have c1 : q * (m - cB - chk) ≤ (4 * p) * (m - cB - chk) := Int.mul_le_mul_of_nonneg_right y m0
          have j1 : (4 * p) * (m - cB - chk) + (2 * p) * ((r : Int) + 2 * cB) + chk * p = (4 * m + 2 * r - 3 * chk) * p := by grind
          have j2 : (4 * m + 2 * r - 3 * chk) * p < 16320 * p := Int.mul_lt_mul_of_pos_right (by omega) p1
          omega
      exact Int.lt_of_mul_lt_mul_right lt pZ
    omega
end
