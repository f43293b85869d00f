/-! records, counted over those under way -/
section
variable {op : Nat → Prop} {w d b : Nat → Nat} {sl : Nat → Int × Int → Nat} {c : Int × Int → Nat} {Kv : List (Int × Int)} {E : List Gq} {cB chk k n N : Nat}
theorem oS_none {p : Nat → Prop} {f : Nat → Nat} {n : Nat} (h : oS p (fun _ => 1) n = 0) : oS p f n = 0 := oS_zero n (fun j hj hp => by
  have := oS_rm (f := fun _ => 1) hp n hj
  omega)
theorem kS_cap {c : Int × Int → Nat} : ∀ K : List (Int × Int), (∀ x, x ∈ K → c x ≤ 3) → kS c K ≤ 3 * K.length
  | [], _ => Nat.le_refl _
  | x :: l, h => by
    have a := h x (List.mem_cons_self ..)
    have e := kS_cap l (fun y hy => h y (List.mem_cons_of_mem _ hy))
    show c x + kS c l ≤ 3 * (l.length + 1)
    omega
theorem za_core (hE : ∀ g, g ∈ E → GqOK (min 48 Kv.length) (kS c Kv) g) (hO : ∀ j, j < n → op j → w j ≤ min 48 Kv.length * d j + b j ∧ w j ≤ d j + b j + kS (sl j) Kv) (hc : ∀ x, x ∈ Kv → c x ≤ 3) (hsl : ∀ x, x ∈ Kv → oS op (fun j => sl j x) n ≤ c x) (hk : kS c Kv + 2 * Kv.length + cB + chk + gqS gqC E + oS op (fun j => 1 + d j) n ≤ k) (hb : gqS gqB E + oS op b n ≤ Kv.length + 2 * cB) (k5 : k ≤ 512) (hN : N ≤ gqS gqW E + oS op w n + chk) : N < 16320 := by
  have e1 := oS_add (p := op) (f := fun _ => 1) (g := d) n
  have i1 : oS op w n ≤ min 48 Kv.length * oS op d n + oS op b n := by
    have a := oS_le (p := op) (f := w) (g := fun j => min 48 Kv.length * d j + b j) n (fun j hj hp => (hO j hj hp).1)
    rw [oS_add (p := op) (f := fun j => min 48 Kv.length * d j) (g := b) n, oS_mul] at a
    exact a
  have i2 : oS op w n ≤ oS op d n + oS op b n + kS c Kv := by
    have a := oS_le (p := op) (f := w) (g := fun j => (d j + b j) + kS (sl j) Kv) n (fun j hj hp => (hO j hj hp).2)
    rw [oS_add (p := op) (f := fun j => d j + b j) (g := fun j => kS (sl j) Kv) n, oS_add (p := op) (f := d) (g := b) n, oS_swap] at a
    have := kS_le Kv hsl
    omega
  have := num_ok (cap := kS c Kv) (r := Kv.length) (k := k) (cB := cB) (chk := chk) (W0 := oS op w n) (t0 := oS op (fun _ => 1) n) (D0 := oS op d n) (b0 := oS op b n) (E := E) (kS_cap Kv hc) hE ⟨i1, i2⟩ oS_none (by omega) hb k5
  omega
/-- the same once one of them is undone, for one call more -/
theorem za_core2 {i : Nat} (hi : i < n) (hoi : op i) (hE : ∀ g, g ∈ E → GqOK (min 48 Kv.length) (kS c Kv) g) (hO : ∀ j, j < n → op j → w j ≤ min 48 Kv.length * d j + b j ∧ w j ≤ d j + b j + kS (sl j) Kv) (hc : ∀ x, x ∈ Kv → c x ≤ 3) (hsl : ∀ x, x ∈ Kv → oS op (fun j => sl j x) n ≤ c x) (hk : kS c Kv + 2 * Kv.length + cB + chk + gqS gqC E + oS op (fun j => 1 + d j) n + 1 ≤ k) (hb : gqS gqB E + oS op b n ≤ Kv.length + 2 * cB) (k5 : k ≤ 512) (hN : N ≤ gqS gqW E + oS op w n + chk) : N + w i + 1 < 16320 ∧ GqOK (min 48 Kv.length) (kS c Kv) (w i, 1, d i, b i) := by
  have slI : kS (sl i) Kv ≤ kS c Kv := kS_le Kv (fun x hx => by
    have := hsl x hx
    rw [oS_rm hoi n hi] at this
    omega)
  have gI : GqOK (min 48 Kv.length) (kS c Kv) (w i, 1, d i, b i) := by
    have a := hO i hi hoi
    refine ⟨⟨a.1, ?_⟩, Nat.le_refl _⟩
    show w i ≤ d i + b i + kS c Kv
    omega
  refine ⟨?_, gI⟩
  have r1 := oS_rm (f := fun j => 1 + d j) hoi n hi
  have r2 := oS_rm (f := b) hoi n hi
  have r3 := oS_rm (f := w) hoi n hi
  refine za_core (op := fun j => op j ∧ j ≠ i) (w := w) (d := d) (b := b) (sl := sl) (c := c) (Kv := Kv) (E := (w i, 1, d i, b i) :: E) (cB := cB) (chk := chk) (k := k) (n := n) (fun g hg => ?_) (fun j hj hp => hO j hj hp.1) hc (fun x hx => ?_) ?_ ?_ k5 ?_
  · rcases List.mem_cons.mp hg with z | z
    · rw [z]; exact gI
    · exact hE g z
  · have := hsl x hx
    rw [oS_rm (f := fun j => sl j x) hoi n hi] at this
    omega
  · show kS c Kv + 2 * Kv.length + cB + chk + ((1 + 1 + d i) + gqS gqC E) + oS (fun j => op j ∧ j ≠ i) (fun j => 1 + d j) n ≤ k
    omega
  · show (b i + gqS gqB E) + oS (fun j => op j ∧ j ≠ i) b n ≤ _
    omega
  · show N + w i + 1 ≤ ((2 * w i + 1) + gqS gqW E) + oS (fun j => op j ∧ j ≠ i) w n + chk
    omega
end
