/-! rows as quadruples: the class's places, the reference's lists -/
abbrev Rw4 : Type := Int × Int × Int × Int
abbrev q4 (f : Int → Int) (b : Int) : Rw4 := (f b, f (b + 1), f (b + 2), f (b + 3))
def g4 (ρ : Rw4) (c : Int) : Int := if c = 0 then ρ.1 else if c = 1 then ρ.2.1 else if c = 2 then ρ.2.2.1 else ρ.2.2.2
theorem g4_q {f : Int → Int} {b c : Int} (hc : 0 ≤ c ∧ c < 4) : g4 (q4 f b) c = f (b + c) := by
  unfold g4
  by_cases h0 : c = 0
  · rw [if_pos h0, h0, Int.add_zero]
  · rw [if_neg h0]
    by_cases h1 : c = 1
    · rw [if_pos h1, h1]
    · rw [if_neg h1]
      by_cases h2 : c = 2
      · rw [if_pos h2, h2]
      · rw [if_neg h2, show c = 3 by omega]
theorem r4_ext {ρ σ : Rw4} (h : ∀ c, 0 ≤ c → c < 4 → g4 ρ c = g4 σ c) : ρ = σ := by
  have h0 : ρ.1 = σ.1 := h 0 (by decide) (by decide)
  have h1 : ρ.2.1 = σ.2.1 := h 1 (by decide) (by decide)
  have h2 : ρ.2.2.1 = σ.2.2.1 := h 2 (by decide) (by decide)
  have h3 : ρ.2.2.2 = σ.2.2.2 := h 3 (by decide) (by decide)
  exact Prod.ext h0 (Prod.ext h1 (Prod.ext h2 h3))
theorem q4_of {f g : Int → Int} {b b' : Int} (h : ∀ c, 0 ≤ c → c < 4 → f (b + c) = g (b' + c)) : q4 f b = q4 g b' := r4_ext (fun c c0 c1 => by rw [g4_q ⟨c0, c1⟩, g4_q ⟨c0, c1⟩]; exact h c c0 c1)
/-- NULL or a number that may stand in a column -/
def okV (v : Int) : Prop := v = -2147483648 ∨ (-1000 ≤ v ∧ v ≤ 1000)
/-- the class has a row -/
def cIn (I : IT) (a : Nat) (t : Int) (ρ : Rw4) : Prop := ∃ p, t * 8 ≤ p ∧ p < t * 8 + 8 ∧ I a (p * 4) ≠ -2147483648 ∧ ρ = q4 (I a) (p * 4)
/-- the reference has a row -/
def mIn (S : IT) (s t : Int) (ρ : Rw4) : Prop := ∃ r, 0 ≤ r ∧ r < S 214 (6 * s + t) ∧ ρ = q4 (S 215) (mrow s t r)
/-- the class's rows are in order -/
def RWc (I : IT) (a : Nat) : Prop := (∀ t p q, 0 ≤ t → t < 6 → t * 8 ≤ p → p < t * 8 + 8 → t * 8 ≤ q → q < t * 8 + 8 → I a (p * 4) ≠ -2147483648 → I a (p * 4) = I a (q * 4) → p = q) ∧ (∀ p c, 0 ≤ p → p < 48 → I a (p * 4) = -2147483648 → 0 ≤ c → c < 4 → I a (p * 4 + c) = -2147483648) ∧ ∀ z, 0 ≤ z → z < 192 → okV (I a z)
/-- the reference's rows are in order -/
def RWm (S : IT) (s : Int) : Prop := (∀ t, 0 ≤ t → t < 6 → 0 ≤ S 214 (6 * s + t) ∧ S 214 (6 * s + t) ≤ 8) ∧ (∀ t r q, 0 ≤ t → t < 6 → 0 ≤ r → r < S 214 (6 * s + t) → 0 ≤ q → q < S 214 (6 * s + t) → S 215 (mrow s t r) = S 215 (mrow s t q) → r = q) ∧ (∀ t r, 0 ≤ t → t < 6 → 0 ≤ r → r < S 214 (6 * s + t) → S 215 (mrow s t r) ≠ -2147483648 ∧ ∀ c, 0 ≤ c → c < 4 → okV (S 215 (mrow s t r + c)))
def RowEq (I : IT) (a : Nat) (S : IT) (s : Int) : Prop := ∀ t ρ, 0 ≤ t → t < 6 → (cIn I a t ρ ↔ mIn S s t ρ)
theorem fs_some {g : Int → Prop} : ∀ (n : Nat) (p j : Int), p ≤ j → j < p + n → g j → fs g p n ≠ -1 ∨ p < 0 := by
  intro n
  induction n with
  | zero => intro p j h1 h2; omega
  | succ n ih =>
    intro p j h1 h2 hg
    by_cases hp : g p
    · rw [fs_yes hp]; omega
    · rw [fs_no hp]
      have : p ≠ j := fun e => hp (e ▸ hg)
      rcases ih (p + 1) j (by omega) (by omega) hg with h | h
      · exact Or.inl h
      · by_cases p0 : p < 0
        · exact Or.inr p0
        · omega
theorem fs_fst {g : Int → Prop} : ∀ (n : Nat) (p : Int), fs g p n = -1 ∨ (p ≤ fs g p n ∧ fs g p n < p + n ∧ g (fs g p n)) := by
  intro n
  induction n with
  | zero => intro p; exact Or.inl rfl
  | succ n ih =>
    intro p
    by_cases hp : g p
    · rw [fs_yes hp]; exact Or.inr ⟨by omega, by omega, hp⟩
    · rw [fs_no hp]
      rcases ih (p + 1) with h | ⟨h1, h2, h3⟩
      · exact Or.inl h
      · exact Or.inr ⟨by omega, by omega, h3⟩
/-- the only one is found -/
theorem fs_uni {g : Int → Prop} {n : Nat} {p j : Int} (h0 : 0 ≤ p) (h1 : p ≤ j) (h2 : j < p + n) (hg : g j) (hu : ∀ q, p ≤ q → q < p + n → g q → q = j) : fs g p n = j := by
  rcases fs_fst (g := g) n p with h | ⟨a, b, c⟩
  · rcases fs_some n p j h1 h2 hg with q | q
    · exact absurd h q
    · omega
  · exact hu _ a b c
theorem fs_none {g : Int → Prop} {n : Nat} {p : Int} (h : ∀ q, p ≤ q → q < p + n → ¬ g q) : fs g p n = -1 := by
  rcases fs_fst (g := g) n p with q | ⟨a, b, c⟩
  · exact q
  · exact absurd c (h _ a b)
section
variable {I S : IT} {a : Nat} {s t y : Int}
theorem rwF_none (ht : 0 ≤ t ∧ t < 6) : rwF I a t y = -1 ↔ ∀ p, t * 8 ≤ p → p < t * 8 + 8 → I a (p * 4) ≠ y := by
  constructor
  · intro h p h1 h2 e
    rcases fs_some (g := fun p => I a (p * 4) = y) 8 (t * 8) p h1 (by omega) e with q | q
    · exact q h
    · omega
  · intro h
    exact fs_none (fun q a b => h q a (by omega))
theorem rwFind_none (ht : 0 ≤ t ∧ t < 6) : rwFind I a t y = -1 ↔ y = -2147483648 ∨ ∀ p, t * 8 ≤ p → p < t * 8 + 8 → I a (p * 4) ≠ y := by
  unfold rwFind
  by_cases h : y = -2147483648
  · rw [if_pos h]; exact ⟨fun _ => Or.inl h, fun _ => rfl⟩
  · rw [if_neg h, rwF_none ht]
    exact ⟨Or.inr, fun q => q.resolve_left h⟩
theorem rwFind_at (hW : RWc I a) (ht : 0 ≤ t ∧ t < 6) {p : Int} (h1 : t * 8 ≤ p) (h2 : p < t * 8 + 8) (hy : I a (p * 4) ≠ -2147483648) : rwFind I a t (I a (p * 4)) = p := by
  unfold rwFind
  rw [if_neg hy]
  exact fs_uni (by omega) h1 (by omega) rfl (fun q q1 q2 e => (hW.1 t p q ht.1 ht.2 h1 h2 q1 (by omega) hy e.symm).symm)
theorem rwFind_in (ht : 0 ≤ t ∧ t < 6) : rwFind I a t y ≠ -1 ↔ ∃ ρ, cIn I a t ρ ∧ ρ.1 = y := by
  constructor
  · intro h
    have hy : y ≠ -2147483648 := fun e => h (by unfold rwFind; rw [if_pos e])
    rcases rwFind_rg I a t y with q | ⟨q1, q2, q3⟩
    · exact absurd q h
    · exact ⟨_, ⟨_, q1, q2, by rw [q3]; exact hy, rfl⟩, q3⟩
  · rintro ⟨ρ, ⟨p, p1, p2, p3, rfl⟩, e⟩ h
    rcases (rwFind_none ht).mp h with q | q
    · exact p3 (Eq.trans e q)
    · exact q p p1 p2 e
theorem mfind_none (ht : 0 ≤ S 214 (6 * s + t)) : mfind S s t y = -1 ↔ ∀ r, 0 ≤ r → r < S 214 (6 * s + t) → S 215 (mrow s t r) ≠ y := by
  unfold mfind
  constructor
  · intro h r h1 h2 e
    rcases fs_some (g := fun r => S 215 (4 * (64 * (6 * s + t) + r)) = y) (S 214 (6 * s + t)).toNat 0 r h1 (by omega) e with q | q
    · exact q h
    · omega
  · intro h
    exact fs_none (fun q a b => h q a (by omega))
theorem mfnd_rg (ht : 0 ≤ S 214 (6 * s + t)) : mfind S s t y = -1 ∨ (0 ≤ mfind S s t y ∧ mfind S s t y < S 214 (6 * s + t) ∧ S 215 (mrow s t (mfind S s t y)) = y) := by
  unfold mfind
  rcases fs_fst (g := fun r => S 215 (4 * (64 * (6 * s + t) + r)) = y) (S 214 (6 * s + t)).toNat 0 with h | ⟨h1, h2, h3⟩
  · exact Or.inl h
  · exact Or.inr ⟨h1, by omega, h3⟩
theorem mfind_at (hW : RWm S s) (ht : 0 ≤ t ∧ t < 6) {r : Int} (h1 : 0 ≤ r) (h2 : r < S 214 (6 * s + t)) : mfind S s t (S 215 (mrow s t r)) = r := by
  have h8 := hW.1 t ht.1 ht.2
  unfold mfind
  exact fs_uni (Int.le_refl _) h1 (by omega) rfl (fun q q1 q2 e => (hW.2.1 t r q ht.1 ht.2 h1 h2 q1 (by omega) e.symm).symm)
theorem mfind_in (hW : RWm S s) (ht : 0 ≤ t ∧ t < 6) : mfind S s t y ≠ -1 ↔ ∃ ρ, mIn S s t ρ ∧ ρ.1 = y := by
  have h8 := hW.1 t ht.1 ht.2
  constructor
  · intro h
    rcases mfnd_rg (y := y) h8.1 with q | ⟨q1, q2, q3⟩
    · exact absurd q h
    · exact ⟨_, ⟨_, q1, q2, rfl⟩, q3⟩
  · rintro ⟨ρ, ⟨r, r1, r2, rfl⟩, e⟩ h
    exact (mfind_none h8.1).mp h r r1 r2 e
theorem find_eq (hE : RowEq I a S s) (hm : RWm S s) (ht : 0 ≤ t ∧ t < 6) : rwFind I a t y = -1 ↔ mfind S s t y = -1 := by
  have h1 := rwFind_in (I := I) (a := a) (y := y) ht
  have h2 := mfind_in (y := y) hm ht
  have h3 : (∃ ρ, cIn I a t ρ ∧ ρ.1 = y) ↔ ∃ ρ, mIn S s t ρ ∧ ρ.1 = y := ⟨fun ⟨ρ, q, e⟩ => ⟨ρ, (hE t ρ ht.1 ht.2).mp q, e⟩, fun ⟨ρ, q, e⟩ => ⟨ρ, (hE t ρ ht.1 ht.2).mpr q, e⟩⟩
  have h4 := (h1.trans h3).trans h2.symm
  exact ⟨fun h => Classical.byContradiction (fun q => h4.mpr q h), fun h => Classical.byContradiction (fun q => h4.mp q h)⟩
/-- the row that is found is the same -/
theorem find_row (hE : RowEq I a S s) (hW : RWc I a) (hm : RWm S s) (ht : 0 ≤ t ∧ t < 6) (h : rwFind I a t y ≠ -1) : q4 (I a) (rwFind I a t y * 4) = q4 (S 215) (mrow s t (mfind S s t y)) := by
  have h8 := hm.1 t ht.1 ht.2
  have h' : mfind S s t y ≠ -1 := fun q => h ((find_eq hE hm ht).mpr q)
  rcases mfnd_rg (y := y) h8.1 with q | ⟨q1, q2, q3⟩
  · exact absurd q h'
  · obtain ⟨p, p1, p2, p3, e⟩ := (hE t _ ht.1 ht.2).mpr ⟨_, q1, q2, rfl⟩
    have e1 : S 215 (mrow s t (mfind S s t y)) = I a (p * 4) := congrArg Prod.fst e
    rw [q3] at e1
    have := rwFind_at hW ht p1 p2 p3
    rw [← e1] at this
    rw [this, e]
theorem cell_eq {c : Int} (hE : RowEq I a S s) (hW : RWc I a) (hm : RWm S s) (ht : 0 ≤ t ∧ t < 6) (hc : 0 ≤ c ∧ c < 4) : rwCell I a t y c = mValue S s t y c := by
  unfold rwCell mValue
  by_cases h : rwFind I a t y = -1
  · rw [if_pos h, if_pos (Or.inr ((find_eq hE hm ht).mp h))]
  · have hy : y ≠ -2147483648 := fun e => h (by unfold rwFind; rw [if_pos e])
    rw [if_neg h, if_neg (fun q => q.elim hy (fun q => h ((find_eq hE hm ht).mpr q)))]
    have := congrArg (fun ρ => g4 ρ c) (find_row hE hW hm ht h)
    simp only [g4_q hc] at this
    exact this
/-! lists of rows -/
def clL (I : IT) (a : Nat) (t : Int) : List Rw4 := ((List.range 8).filter (fun p : Nat => decide (I a ((t * 8 + (p : Int)) * 4) ≠ -2147483648))).map (fun p : Nat => q4 (I a) ((t * 8 + (p : Int)) * 4))
def mlL (S : IT) (s t : Int) : List Rw4 := (List.range (S 214 (6 * s + t)).toNat).map (fun r : Nat => q4 (S 215) (mrow s t (r : Int)))
theorem mem_clL {ρ : Rw4} : ρ ∈ clL I a t ↔ cIn I a t ρ := by
  unfold clL cIn
  constructor
  · intro h
    obtain ⟨p, hp, e⟩ := List.mem_map.mp h
    obtain ⟨h1, h2⟩ := List.mem_filter.mp hp
    have h1 := List.mem_range.mp h1
    exact ⟨t * 8 + (p : Int), by omega, by omega, of_decide_eq_true h2, e.symm⟩
  · rintro ⟨p, h1, h2, h3, rfl⟩
    have e : t * 8 + (((p - t * 8).toNat : Nat) : Int) = p := by omega
    refine List.mem_map.mpr ⟨(p - t * 8).toNat, List.mem_filter.mpr ⟨List.mem_range.mpr (by omega), decide_eq_true (by rw [e]; exact h3)⟩, ?_⟩
    show q4 (I a) ((t * 8 + (((p - t * 8).toNat : Nat) : Int)) * 4) = q4 (I a) (p * 4)
    rw [e]
theorem mem_mlL {ρ : Rw4} : ρ ∈ mlL S s t ↔ mIn S s t ρ := by
  unfold mlL mIn
  constructor
  · intro h
    obtain ⟨r, hr, e⟩ := List.mem_map.mp h
    have := List.mem_range.mp hr
    exact ⟨(r : Int), by omega, by omega, e.symm⟩
  · rintro ⟨r, h1, h2, rfl⟩
    refine List.mem_map.mpr ⟨r.toNat, List.mem_range.mpr (by omega), ?_⟩
    show q4 (S 215) (mrow s t ((r.toNat : Nat) : Int)) = q4 (S 215) (mrow s t r)
    rw [Int.toNat_of_nonneg h1]
theorem nodup_map_on {α β : Type} {f : α → β} : ∀ {l : List α}, (∀ x ∈ l, ∀ y ∈ l, f x = f y → x = y) → l.Nodup → (l.map f).Nodup := by
  intro l
  induction l with
  | nil => intro _ _; exact List.nodup_nil
  | cons b l ih =>
    intro h hn
    rw [List.map_cons, List.nodup_cons]
    obtain ⟨h1, h2⟩ := List.nodup_cons.mp hn
    refine ⟨fun hm => ?_, ih (fun x hx y hy => h x (List.mem_cons_of_mem _ hx) y (List.mem_cons_of_mem _ hy)) h2⟩
    obtain ⟨x, hx, e⟩ := List.mem_map.mp hm
    exact h1 (h x (List.mem_cons_of_mem _ hx) b List.mem_cons_self e ▸ hx)
theorem clL_nodup (hW : RWc I a) (ht : 0 ≤ t ∧ t < 6) : (clL I a t).Nodup := by
  refine nodup_map_on (fun x hx y hy e => ?_) (List.nodup_range.sublist List.filter_sublist)
  obtain ⟨x1, x2⟩ := List.mem_filter.mp hx
  obtain ⟨y1, y2⟩ := List.mem_filter.mp hy
  have x1 := List.mem_range.mp x1
  have y1 := List.mem_range.mp y1
  have := hW.1 t _ _ ht.1 ht.2 (by omega) (by omega) (by omega) (by omega) (of_decide_eq_true x2) (congrArg Prod.fst e)
  omega
theorem mlL_nodup (hW : RWm S s) (ht : 0 ≤ t ∧ t < 6) : (mlL S s t).Nodup := by
  refine nodup_map_on (fun x hx y hy e => ?_) List.nodup_range
  have x1 := List.mem_range.mp hx
  have y1 := List.mem_range.mp hy
  have h8 := hW.1 t ht.1 ht.2
  have := hW.2.1 t _ _ ht.1 ht.2 (Int.natCast_nonneg x) (by omega) (Int.natCast_nonneg y) (by omega) (congrArg Prod.fst e)
  omega
theorem rows_perm (hE : RowEq I a S s) (hW : RWc I a) (hm : RWm S s) (ht : 0 ≤ t ∧ t < 6) : (clL I a t).Perm (mlL S s t) := (List.perm_ext_iff_of_nodup (clL_nodup hW ht) (mlL_nodup hm ht)).mpr (fun ρ => mem_clL.trans ((hE t ρ ht.1 ht.2).trans mem_mlL.symm))
theorem cntI_filter {g : Int → Prop} : ∀ n : Nat, cntI g n = (((List.range n).filter (fun p : Nat => @decide (g (p : Int)) (Classical.propDecidable _))).length : Int) := by
  intro n
  induction n with
  | zero => rfl
  | succ n ih =>
    show cntI g n + bI (g n) = _
    rw [List.range_succ, List.filter_append, List.length_append, ih]
    by_cases h : g n
    · have e : List.filter (fun p : Nat => @decide (g (p : Int)) (Classical.propDecidable _)) [n] = [n] := List.filter_cons_of_pos (p := fun p : Nat => @decide (g (p : Int)) (Classical.propDecidable _)) (@decide_eq_true _ (Classical.propDecidable _) h)
      rw [bI1 h, e]; simp
    · have e : List.filter (fun p : Nat => @decide (g (p : Int)) (Classical.propDecidable _)) [n] = [] := List.filter_cons_of_neg (p := fun p : Nat => @decide (g (p : Int)) (Classical.propDecidable _)) (fun z => h (@of_decide_eq_true _ (Classical.propDecidable _) z))
      rw [bI0 h, e]; simp
theorem count_eq (hE : RowEq I a S s) (hW : RWc I a) (hm : RWm S s) (ht : 0 ≤ t ∧ t < 6) : rwCnt I a t 8 = S 214 (6 * s + t) := by
  have h8 := hm.1 t ht.1 ht.2
  unfold rwCnt
  rw [cntI_filter]
  have h1 := (rows_perm hE hW hm ht).length_eq
  unfold clL mlL at h1
  have ed : (fun p : Nat => @decide (I a ((t * 8 + (p : Int)) * 4) ≠ -2147483648) (Classical.propDecidable _)) = (fun p : Nat => decide (I a ((t * 8 + (p : Int)) * 4) ≠ -2147483648)) := funext (fun p => by congr)
  rw [ed]
  rw [List.length_map, List.length_map, List.length_range] at h1
  rw [h1]
  omega
end
