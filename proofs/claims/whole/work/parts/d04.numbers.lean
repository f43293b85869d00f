/-! how many records there may be: the sum -/
section
/-- what ended together: writes, transactions, deletes, inserts and updates with cells put again -/
abbrev Gq : Type := Nat × Nat × Nat × Nat
def gqS (f : Gq → Nat) : List Gq → Nat
  | [] => 0
  | g :: l => f g + gqS f l
def gqW (g : Gq) : Nat := 2 * g.1 + g.2.1
def gqC (g : Gq) : Nat := g.2.1 + 1 + g.2.2.1
def gqB (g : Gq) : Nat := g.2.2.2
def GqOK (ρ cap : Nat) (g : Gq) : Prop := (g.1 ≤ ρ * g.2.2.1 + g.2.2.2 ∧ g.1 ≤ g.2.2.1 + g.2.2.2 + cap) ∧ 1 ≤ g.2.1
theorem GqOK.up {ρ ρ' cap cap' : Nat} {g : Gq} (h : GqOK ρ cap g) (h1 : ρ ≤ ρ') (h2 : cap ≤ cap') : GqOK ρ' cap' g := by
  have := Nat.mul_le_mul_right g.2.2.1 h1
  exact ⟨⟨by have := h.1.1; omega, by have := h.1.2; omega⟩, h.2⟩
theorem gq_one {R cap : Nat} {g : Gq} (hc : 2 ≤ cap) (h : GqOK (R + 1) cap g) : ((gqW g : Nat) : Int) * ((cap : Int) + 2 * R) ≤ (2 * (cap : Int) * R + 2 * cap + R) * (gqC g : Nat) + 2 * ((cap : Int) + 2 * R) * (gqB g : Nat) := by
  obtain ⟨w, t, d, b⟩ := g
  obtain ⟨⟨h1, h2⟩, h3⟩ := h
  have h1 : w ≤ (R + 1) * d + b := h1
  have h2 : w ≤ d + b + cap := h2
  have h3 : 1 ≤ t := h3
  have h1Z : (w : Int) - b ≤ ((R : Int) + 1) * d := by
    have : ((w : Nat) : Int) ≤ (((R + 1) * d + b : Nat) : Int) := by omega
    rw [Int.natCast_add, Int.natCast_mul, Int.natCast_add] at this
    have e : ((1 : Nat) : Int) = 1 := rfl
    rw [e] at this
    omega
  have aZ := gp_A (R := (R : Int)) (cap := (cap : Int)) (d := (d : Int)) (f := (w : Int) - b) (by omega) (by omega) h1Z (by omega)
  have pZ : 0 ≤ (cap : Int) + 2 * R := by omega
  have qp : (cap : Int) + 2 * R ≤ 2 * (cap : Int) * R + 2 * cap + R := by
    have : 2 * (R : Int) ≤ (cap : Int) * R := Int.mul_le_mul_of_nonneg_right (by omega) (by omega)
    have e : 2 * (cap : Int) * R = 2 * ((cap : Int) * R) := Int.mul_assoc _ _ _
    omega
  show ((2 * w + t : Nat) : Int) * _ ≤ _ * ((t + 1 + d : Nat) : Int) + _ * ((b : Nat) : Int)
  rw [Int.natCast_add, Int.natCast_mul, Int.natCast_add, Int.natCast_add]
  have e1 : ((1 : Nat) : Int) = 1 := rfl
  have e2 : ((2 : Nat) : Int) = 2 := rfl
  rw [e1, e2]
  generalize (cap : Int) + 2 * R = p at *
  generalize 2 * (cap : Int) * R + 2 * cap + R = q at *
  have m1 : p * ((t : Int) - 1) ≤ q * ((t : Int) - 1) := Int.mul_le_mul_of_nonneg_right qp (by omega)
  have i1 : (2 * (w : Int) + t) * p = (2 * ((w : Int) - b) + 1) * p + p * ((t : Int) - 1) + 2 * p * b := by grind
  have i2 : q * ((t : Int) + 1 + d) = q * ((d : Int) + 2) + q * ((t : Int) - 1) := by grind
  omega
theorem gq_sum {R cap : Nat} (hc : 2 ≤ cap) : ∀ (E : List Gq), (∀ g, g ∈ E → GqOK (R + 1) cap g) → ((gqS gqW E : Nat) : Int) * ((cap : Int) + 2 * R) ≤ (2 * (cap : Int) * R + 2 * cap + R) * (gqS gqC E : Nat) + 2 * ((cap : Int) + 2 * R) * (gqS gqB E : Nat)
  | [], _ => by
    show ((0 : Nat) : Int) * _ ≤ _ * ((0 : Nat) : Int) + _ * ((0 : Nat) : Int)
    have e : ((0 : Nat) : Int) = 0 := rfl
    rw [e, Int.zero_mul, Int.mul_zero, Int.mul_zero]; decide
  | g :: l, h => by
    have i1 := gq_one hc (h g (List.mem_cons_self ..))
    have i2 := gq_sum hc l (fun x hx => h x (List.mem_cons_of_mem _ hx))
    show ((gqW g + gqS gqW l : Nat) : Int) * _ ≤ _ * ((gqC g + gqS gqC l : Nat) : Int) + _ * ((gqB g + gqS gqB l : Nat) : Int)
    rw [Int.natCast_add, Int.natCast_add, Int.natCast_add]
    generalize (cap : Int) + 2 * R = p at *
    generalize 2 * (cap : Int) * R + 2 * cap + R = q at *
    rw [Int.add_mul, Int.mul_add, Int.mul_add]
    omega
theorem gq_low : ∀ (E : List Gq), (∀ g, g ∈ E → g.1 ≤ g.2.2.1 + g.2.2.2 + 1) → gqS gqW E ≤ 2 * gqS gqC E + 2 * gqS gqB E
  | [], _ => Nat.le_refl _
  | g :: l, h => by
    have i1 := h g (List.mem_cons_self ..)
    have i2 := gq_low l (fun x hx => h x (List.mem_cons_of_mem _ hx))
    show (2 * g.1 + g.2.1) + gqS gqW l ≤ 2 * ((g.2.1 + 1 + g.2.2.1) + gqS gqC l) + 2 * (g.2.2.2 + gqS gqB l)
    omega
/-- the numbers of the last step -/
def finB (R cap r : Nat) : Bool := Nat.ble cap 1 || Nat.ble (2 * r * (cap + 2 * R) + (2 * cap * R + 2 * cap + R) * (512 - cap - 2 * r) + 1) (16320 * (cap + 2 * R))
def finL (r : Nat) : Nat → Bool
  | 0 => true
  | c + 1 => finB (r - 1) c r && finL r c
def finR : Nat → Bool
  | 0 => true
  | r + 1 => finL r 145 && finR r
theorem finL_at {r : Nat} : ∀ n, finL r n = true → ∀ c, c < n → finB (r - 1) c r = true
  | 0, _, c, hc => absurd hc (Nat.not_lt_zero c)
  | n + 1, h, c, hc => by
    have h' : (finB (r - 1) n r && finL r n) = true := h
    rw [Bool.and_eq_true] at h'
    by_cases e : c = n
    · rw [e]; exact h'.1
    · exact finL_at n h'.2 c (by omega)
theorem finR_at : ∀ n, finR n = true → ∀ r, r < n → finL r 145 = true
  | 0, _, c, hc => absurd hc (Nat.not_lt_zero c)
  | n + 1, h, c, hc => by
    have h' : (finL n 145 && finR n) = true := h
    rw [Bool.and_eq_true] at h'
    by_cases e : c = n
    · rw [e]; exact h'.1
    · exact finR_at n h'.2 c (by omega)
theorem fin_low : finR 49 = true := by decide +kernel
theorem fin_high : finL 48 420 = true := by decide +kernel
theorem finB_le {R cap r : Nat} (hc : 2 ≤ cap) (h : finB R cap r = true) : 2 * r * (cap + 2 * R) + (2 * cap * R + 2 * cap + R) * (512 - cap - 2 * r) < 16320 * (cap + 2 * R) := by
  unfold finB at h
  rw [Bool.or_eq_true] at h
  rcases h with z | z
  · have := Nat.le_of_ble_eq_true z
    omega
  · have := Nat.le_of_ble_eq_true z
    omega
end
