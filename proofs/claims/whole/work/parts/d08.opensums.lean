/-! sums over those under way -/
section
variable {p p' : Nat → Prop} {f g : Nat → Nat} {n : Nat}
noncomputable def oS (p : Nat → Prop) (f : Nat → Nat) : Nat → Nat
  | 0 => 0
  | n + 1 => @ite _ (p n) (Classical.propDecidable _) (f n) 0 + oS p f n
theorem oS_y (h : p n) : oS p f (n + 1) = f n + oS p f n := by
  show @ite _ (p n) (Classical.propDecidable _) (f n) 0 + _ = _
  rw [if_pos h]
theorem oS_n (h : ¬ p n) : oS p f (n + 1) = oS p f n := by
  show @ite _ (p n) (Classical.propDecidable _) (f n) 0 + _ = _
  rw [if_neg h, Nat.zero_add]
theorem oS_le : ∀ n : Nat, (∀ j, j < n → p j → f j ≤ g j) → oS p f n ≤ oS p g n
  | 0, _ => Nat.le_refl _
  | n + 1, h => by
    have ih := oS_le n (fun j hj => h j (by omega))
    by_cases y : p n
    · rw [oS_y y, oS_y y]
      have := h n (by omega) y
      omega
    · rw [oS_n y, oS_n y]; exact ih
theorem oS_eq : ∀ n : Nat, (∀ j, j < n → (p' j ↔ p j) ∧ (p j → f j = g j)) → oS p' f n = oS p g n
  | 0, _ => rfl
  | n + 1, h => by
    have ih := oS_eq n (fun j hj => h j (by omega))
    obtain ⟨a, b⟩ := h n (by omega)
    by_cases y : p n
    · rw [oS_y (a.mpr y), oS_y y, ih, b y]
    · rw [oS_n (fun z => y (a.mp z)), oS_n y, ih]
theorem oS_add : ∀ n : Nat, oS p (fun j => f j + g j) n = oS p f n + oS p g n
  | 0 => rfl
  | n + 1 => by
    have ih := oS_add n
    by_cases y : p n
    · rw [oS_y y, oS_y y, oS_y y, ih]; omega
    · rw [oS_n y, oS_n y, oS_n y, ih]
theorem oS_mul (c : Nat) : ∀ n : Nat, oS p (fun j => c * f j) n = c * oS p f n
  | 0 => rfl
  | n + 1 => by
    have ih := oS_mul c n
    by_cases y : p n
    · rw [oS_y y, oS_y y, ih, Nat.mul_add]
    · rw [oS_n y, oS_n y, ih]
/-- one of them taken out -/
theorem oS_rm {j : Nat} (hp : p j) : ∀ n : Nat, j < n → oS p f n = f j + oS (fun k => p k ∧ k ≠ j) f n
  | 0, h => absurd h (Nat.not_lt_zero j)
  | n + 1, h => by
    by_cases e : j = n
    · subst e
      rw [oS_y hp, oS_n (p := fun k => p k ∧ k ≠ j) (fun z => z.2 rfl)]
      rw [oS_eq (p := p) (p' := fun k => p k ∧ k ≠ j) (f := f) (g := f) j (fun k hk => ⟨⟨fun z => z.1, fun z => ⟨z, by omega⟩⟩, fun _ => rfl⟩)]
    · have ih := oS_rm hp n (by omega)
      by_cases y : p n
      · rw [oS_y y, oS_y (p := fun k => p k ∧ k ≠ j) ⟨y, fun z => e z.symm⟩, ih]; omega
      · rw [oS_n y, oS_n (p := fun k => p k ∧ k ≠ j) (fun z => y z.1), ih]
/-- two families that differ at one alone -/
theorem oS_at {j : Nat} (hp : p j) (hj : j < n) (h : ∀ k, k < n → p k → k ≠ j → f k = g k) : oS p f n + g j = oS p g n + f j := by
  rw [oS_rm (f := f) hp n hj, oS_rm (f := g) hp n hj]
  rw [oS_eq (p := fun k => p k ∧ k ≠ j) (p' := fun k => p k ∧ k ≠ j) (f := f) (g := g) n (fun k hk => ⟨Iff.rfl, fun z => h k hk z.1 z.2⟩)]
  omega
theorem oS_swap (f : Nat → Int × Int → Nat) : ∀ K : List (Int × Int), oS p (fun j => kS (f j) K) n = kS (fun x => oS p (fun j => f j x) n) K
  | [] => by
    have z : ∀ m : Nat, oS p (fun j => kS (f j) []) m = 0 := fun m => by
      induction m with
      | zero => rfl
      | succ m ih =>
        by_cases y : p m
        · rw [oS_y y, ih]; rfl
        · rw [oS_n y, ih]
    rw [z]; rfl
  | x :: l => by
    have ih := oS_swap f l
    have e := oS_add (p := p) (f := fun j => f j x) (g := fun j => kS (f j) l) n
    show oS p (fun j => f j x + kS (f j) l) n = oS p (fun j => f j x) n + kS (fun x => oS p (fun j => f j x) n) l
    rw [e, ih]
theorem oS_zero : ∀ n : Nat, (∀ j, j < n → p j → f j = 0) → oS p f n = 0
  | 0, _ => rfl
  | n + 1, h => by
    have ih := oS_zero n (fun j hj => h j (by omega))
    by_cases y : p n
    · rw [oS_y y, ih, h n (by omega) y]
    · rw [oS_n y, ih]
/-- at most one of them counts -/
theorem oS_single {c : Nat} : ∀ n : Nat, (∀ j k, j < n → k < n → p j → p k → f j ≠ 0 → f k ≠ 0 → j = k) → (∀ j, j < n → p j → f j ≤ c) → oS p f n ≤ c
  | 0, _, _ => Nat.zero_le _
  | n + 1, h, hc => by
    by_cases y : p n ∧ f n ≠ 0
    · rw [oS_y y.1, oS_zero n (fun j hj hp => Classical.byContradiction (fun z => by
        have := h j n (by omega) (by omega) hp y.1 z y.2
        omega))]
      exact hc n (by omega) y.1
    · have ih := oS_single n (fun j k hj hk => h j k (by omega) (by omega)) (fun j hj => hc j (by omega))
      by_cases z : p n
      · rw [oS_y z]
        have : f n = 0 := Classical.byContradiction (fun w => y ⟨z, w⟩)
        omega
      · rw [oS_n z]; exact ih
end
