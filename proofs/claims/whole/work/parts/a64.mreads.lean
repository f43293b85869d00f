/-! what the reference's tries read -/
section
variable {S : IT} {i : Int}
def RdF (S S' : IT) (i : Int) : Prop := (∀ j, j ≠ i → S' 233 j = S 233 j) ∧ (∀ j, ¬ (2048 * i ≤ j ∧ j < 2048 * i + 2048) → S' 234 j = S 234 j ∧ S' 235 j = S 235 j) ∧ ∀ j, ¬ (6 * i ≤ j ∧ j < 6 * i + 6) → S' 236 j = S 236 j
/-- reads more: whole tables W, keys Y, c places at most -/
def MrD (S S' : IT) (i : Int) (W : Int → Prop) (Y : Int → Int → Prop) (c : Int) : Prop :=
  RdF S S' i ∧
  (∀ t y, 0 ≤ t → t < 6 → (mRead S' i t y ↔ mRead S i t y ∨ W t ∨ Y t y)) ∧ (∀ t, 0 ≤ t → t < 6 → (S' 236 (6 * i + t) = 1 ↔ S 236 (6 * i + t) = 1 ∨ W t)) ∧
  (S 233 i ≤ S' 233 i ∧ S' 233 i ≤ S 233 i + c) ∧ ((∀ j, 0 ≤ S 234 j ∧ S 234 j < 6) → (∀ t y, Y t y → 0 ≤ t ∧ t < 6) → ∀ j, 0 ≤ S' 234 j ∧ S' 234 j < 6) ∧ ((∀ t y, Y t y → mRead S i t y) → S' 233 i = S 233 i)
theorem MrD.rf : MrD S S i (fun _ => False) (fun _ _ => False) 0 := ⟨⟨fun _ _ => rfl, fun _ _ => ⟨rfl, rfl⟩, fun _ _ => rfl⟩, fun t y _ _ => ⟨Or.inl, fun z => z.elim id (fun z => z.elim False.elim False.elim)⟩, fun t _ _ => ⟨Or.inl, fun z => z.elim id False.elim⟩, ⟨Int.le_refl _, by omega⟩, fun h _ => h, fun _ => rfl⟩
theorem MrD.iff {S' : IT} {W W' : Int → Prop} {Y Y' : Int → Int → Prop} {c c' : Int} (h : MrD S S' i W Y c) (hW : ∀ t, 0 ≤ t → t < 6 → (W t ↔ W' t)) (hY : ∀ t y, Y t y ↔ Y' t y) (hc : c ≤ c') : MrD S S' i W' Y' c' := by
  obtain ⟨a2, a3, a4, a5, a6, a7⟩ := h
  exact ⟨a2, fun t y h0 h1 => (a3 t y h0 h1).trans (by rw [hW t h0 h1, hY t y]), fun t h0 h1 => (a4 t h0 h1).trans (by rw [hW t h0 h1]), ⟨a5.1, by omega⟩, fun h1 h2 => a6 h1 (fun t y q => h2 t y ((hY t y).mp q)), fun h1 => a7 (fun t y q => h1 t y ((hY t y).mp q))⟩
theorem MrD.tr {S1 S2 : IT} {W W' : Int → Prop} {Y Y' : Int → Int → Prop} {c c' : Int} (h : MrD S S1 i W Y c) (h' : MrD S1 S2 i W' Y' c') (hy : ∀ t y, Y' t y → 0 ≤ t ∧ t < 6) : MrD S S2 i (fun t => W t ∨ W' t) (fun t y => Y t y ∨ Y' t y) (c + c') := by
  obtain ⟨⟨f1, f2, f3⟩, a3, a4, a5, a6, a7⟩ := h
  obtain ⟨⟨g1, g2, g3⟩, b3, b4, b5, b6, b7⟩ := h'
  refine ⟨⟨fun j hj => (g1 j hj).trans (f1 j hj), fun j hj => ⟨(g2 j hj).1.trans (f2 j hj).1, (g2 j hj).2.trans (f2 j hj).2⟩, fun j hj => (g3 j hj).trans (f3 j hj)⟩, fun t y h0 h1 => ?_, fun t h0 h1 => ?_, ⟨by omega, by omega⟩, fun h1 h2 => b6 (a6 h1 (fun t y q => h2 t y (Or.inl q))) (fun t y q => h2 t y (Or.inr q)), fun h1 => ?_⟩
  · rw [b3 t y h0 h1, a3 t y h0 h1]
    constructor
    · rintro ((h | h | h) | h | h)
      · exact Or.inl h
      · exact Or.inr (Or.inl (Or.inl h))
      · exact Or.inr (Or.inr (Or.inl h))
      · exact Or.inr (Or.inl (Or.inr h))
      · exact Or.inr (Or.inr (Or.inr h))
    · rintro (h | (h | h) | (h | h))
      · exact Or.inl (Or.inl h)
      · exact Or.inl (Or.inr (Or.inl h))
      · exact Or.inr (Or.inl h)
      · exact Or.inl (Or.inr (Or.inr h))
      · exact Or.inr (Or.inr h)
  · rw [b4 t h0 h1, a4 t h0 h1, or_assoc]
  · rw [b7 (fun t y q => (a3 t y (hy t y q).1 (hy t y q).2).mpr (Or.inl (h1 t y (Or.inr q)))), a7 (fun t y q => h1 t y (Or.inl q))]
theorem MrD.key {t key : Int} (h0 : 0 ≤ S 233 i ∧ S 233 i < 2048) (ht : 0 ≤ t ∧ t < 6) : MrD S (mReadsKey S i t key) i (fun _ => False) (fun t' y' => t' = t ∧ y' = key) 1 := by
  by_cases h : mRead S i t key
  · rw [mReadsKey_1 h]
    refine ⟨⟨fun _ _ => rfl, fun _ _ => ⟨rfl, rfl⟩, fun _ _ => rfl⟩, fun t' y _ _ => ⟨Or.inl, fun z => z.elim id (fun z => z.elim False.elim (fun ⟨e1, e2⟩ => by rw [e1, e2]; exact h))⟩, fun t _ _ => ⟨Or.inl, fun z => z.elim id False.elim⟩, ⟨Int.le_refl _, by omega⟩, fun h _ => h, fun _ => rfl⟩
  · rw [mReadsKey_0 h]
    have e233 : ∀ j, up2 (up2 (up2 S 234 (2048 * i + S 233 i) t) 235 (2048 * i + S 233 i) key) 233 i (S 233 i + 1) 233 j = if j = i then S 233 i + 1 else S 233 j := fun j => by
      by_cases hj : j = i
      · rw [if_pos hj, hj, up2_eq]
      · rw [if_neg hj, up2_k _ _ _ _ hj, up2_o _ _ _ _ (by decide), up2_o _ _ _ _ (by decide)]
    have e234 : ∀ j, up2 (up2 (up2 S 234 (2048 * i + S 233 i) t) 235 (2048 * i + S 233 i) key) 233 i (S 233 i + 1) 234 j = if j = 2048 * i + S 233 i then t else S 234 j := fun j => by
      rw [up2_o _ _ _ _ (by decide), up2_o _ _ _ _ (by decide)]
      by_cases hj : j = 2048 * i + S 233 i
      · rw [if_pos hj, hj, up2_eq]
      · rw [if_neg hj, up2_k _ _ _ _ hj]
    have e235 : ∀ j, up2 (up2 (up2 S 234 (2048 * i + S 233 i) t) 235 (2048 * i + S 233 i) key) 233 i (S 233 i + 1) 235 j = if j = 2048 * i + S 233 i then key else S 235 j := fun j => by
      rw [up2_o _ _ _ _ (by decide)]
      by_cases hj : j = 2048 * i + S 233 i
      · rw [if_pos hj, hj, up2_eq]
      · rw [if_neg hj, up2_k _ _ _ _ hj, up2_o _ _ _ _ (by decide)]
    have e236 : ∀ j, up2 (up2 (up2 S 234 (2048 * i + S 233 i) t) 235 (2048 * i + S 233 i) key) 233 i (S 233 i + 1) 236 j = S 236 j := fun j => by
      rw [up2_o _ _ _ _ (by decide), up2_o _ _ _ _ (by decide), up2_o _ _ _ _ (by decide)]
    refine ⟨⟨fun j hj => by rw [e233, if_neg hj], fun j hj => ⟨by rw [e234, if_neg (by omega)], by rw [e235, if_neg (by omega)]⟩, fun j _ => e236 j⟩, fun t' y h1 h2 => ?_, fun t' _ _ => by rw [e236]; exact ⟨Or.inl, fun z => z.elim id False.elim⟩, by rw [e233, if_pos rfl]; omega, fun h1 h2 j => ?_, fun h1 => absurd (h1 t key ⟨rfl, rfl⟩) h⟩
    · unfold mRead
      rw [e236, e233, if_pos rfl]
      constructor
      · rintro (q | ⟨j, j0, j1, q1, q2⟩)
        · exact Or.inl (Or.inl q)
        · rw [e234] at q1
          rw [e235] at q2
          by_cases hj : j = 2048 * i + S 233 i
          · rw [if_pos hj] at q1 q2
            exact Or.inr (Or.inr ⟨q1.symm, q2.symm⟩)
          · rw [if_neg hj] at q1 q2
            exact Or.inl (Or.inr ⟨j, j0, by omega, q1, q2⟩)
      · rintro ((q | ⟨j, j0, j1, q1, q2⟩) | q | ⟨q1, q2⟩)
        · exact Or.inl q
        · exact Or.inr ⟨j, j0, by omega, by rw [e234, if_neg (by omega)]; exact q1, by rw [e235, if_neg (by omega)]; exact q2⟩
        · exact q.elim
        · exact Or.inr ⟨2048 * i + S 233 i, by omega, by omega, by rw [e234, if_pos rfl, q1], by rw [e235, if_pos rfl, q2]⟩
    · rw [e234]
      split
      · exact ht
      · exact h1 j
theorem MrD.ref {t c v : Int} (h0 : 0 ≤ S 233 i ∧ S 233 i < 2048) (ht : S 206 (4 * t + c) = -1 ∨ (0 ≤ S 206 (4 * t + c) ∧ S 206 (4 * t + c) < 6)) : MrD S (mReadsRef S i t c v) i (fun _ => False) (fun t' y' => S 206 (4 * t + c) ≠ -1 ∧ v ≠ -2147483648 ∧ t' = S 206 (4 * t + c) ∧ y' = v) 1 := by
  by_cases h : S 206 (4 * t + c) = -1 ∨ v = -2147483648
  · rw [mReadsRef_1 h]
    exact MrD.rf.iff (fun _ _ _ => Iff.rfl) (fun t y => ⟨False.elim, fun q => h.elim q.1 q.2.1⟩) (by decide)
  · rw [mReadsRef_0 h]
    have h1 : S 206 (4 * t + c) ≠ -1 := fun q => h (Or.inl q)
    exact (MrD.key h0 (ht.resolve_left h1)).iff (fun _ _ _ => Iff.rfl) (fun t y => ⟨fun q => ⟨h1, fun z => h (Or.inr z), q⟩, fun q => q.2.2⟩) (Int.le_refl _)
/-- an insert reads -/
def mInY (S : IT) (i t : Int) (n : Nat) (t' y' : Int) : Prop := (S 232 (4 * i) ≠ -2147483648 ∧ t' = t ∧ y' = S 232 (4 * i)) ∨ ∃ j : Int, 1 ≤ j ∧ j ≤ n ∧ S 206 (4 * t + j) ≠ -1 ∧ S 232 (4 * i + j) ≠ -2147483648 ∧ t' = S 206 (4 * t + j) ∧ y' = S 232 (4 * i + j)
theorem MrD.ins {t : Int} (ht : 0 ≤ t ∧ t < 6) (hr : ∀ k, S 206 k = -1 ∨ (0 ≤ S 206 k ∧ S 206 k < 6)) : ∀ n : Nat, (0 ≤ S 233 i ∧ S 233 i + n < 2048) → MrD S (mInsS S i t n) i (fun _ => False) (mInY S i t n) (1 + n) := by
  intro n
  induction n with
  | zero =>
    intro h0
    by_cases h : S 232 (4 * i) = -2147483648
    · rw [mInsS_1 h]
      exact MrD.rf.iff (fun _ _ _ => Iff.rfl) (fun t y => ⟨False.elim, fun q => q.elim (fun q => q.1 h) (fun ⟨j, a, b, _⟩ => by omega)⟩) (by decide)
    · rw [mInsS_0 h]
      exact (MrD.key ⟨h0.1, by omega⟩ ht).iff (fun _ _ _ => Iff.rfl) (fun t y => ⟨fun q => Or.inl ⟨h, q⟩, fun q => q.elim (fun q => q.2) (fun ⟨j, a, b, _⟩ => by omega)⟩) (by decide)
  | succ n ih =>
    intro h0
    have h1 := ih ⟨h0.1, by omega⟩
    have e206 : ∀ k, mInsS S i t n 206 k = S 206 k := fun k => mInsS_fr n 206 k (by decide) (by decide) (by decide)
    have e232 : ∀ k, mInsS S i t n 232 k = S 232 k := fun k => mInsS_fr n 232 k (by decide) (by decide) (by decide)
    have hn := h1.2.2.2.1
    have h2 := MrD.ref (S := mInsS S i t n) (i := i) (t := t) (c := (n : Int) + 1) (v := mInsS S i t n 232 (4 * i + ((n : Int) + 1))) ⟨by omega, by omega⟩ (by rw [e206]; exact hr _)
    have h3 := h1.tr h2 (fun t' y q => by rw [q.2.2.1, e206]; exact (hr _).resolve_left (by rw [← e206]; exact q.1))
    refine h3.iff (fun _ _ _ => ⟨fun z => z.elim id id, False.elim⟩) (fun t' y => ?_) (by omega)
    rw [e206, e232]
    unfold mInY
    constructor
    · rintro ((q | ⟨j, a, b, c⟩) | q)
      · exact Or.inl q
      · exact Or.inr ⟨j, a, by omega, c⟩
      · exact Or.inr ⟨(n : Int) + 1, by omega, by omega, q⟩
    · rintro (q | ⟨j, a, b, c⟩)
      · exact Or.inl (Or.inl q)
      · by_cases hj : j ≤ n
        · exact Or.inl (Or.inr ⟨j, a, hj, c⟩)
        · have : j = (n : Int) + 1 := by omega
          subst this
          exact Or.inr c
/-- tables that refer to one, read whole -/
theorem MrD.refs {t : Int} (hi : 0 ≤ i) : MrD S (mReadsRefs S i t 24) i (fun t' => ∃ k, 0 ≤ k ∧ k < 24 ∧ S 206 k = t ∧ k.tdiv 4 = t') (fun _ _ => False) 0 := by
  have e236 : ∀ q, mReadsRefs S i t 24 236 q = 1 ↔ S 236 q = 1 ∨ ∃ j, 0 ≤ j ∧ j < 24 ∧ S 206 j = t ∧ q = 6 * i + j.tdiv 4 := fun q => by
    by_cases h : ∃ j, 0 ≤ j ∧ j < 24 ∧ S 206 j = t ∧ q = 6 * i + j.tdiv 4
    · have : mReadsRefs S i t 24 236 q = 1 := @if_pos _ (Classical.propDecidable _) ⟨rfl, h⟩ _ _ _
      exact ⟨fun _ => Or.inr h, fun _ => this⟩
    · have : mReadsRefs S i t 24 236 q = S 236 q := @if_neg _ (Classical.propDecidable _) (fun z => h z.2) _ _ _
      rw [this]
      exact ⟨Or.inl, fun z => z.resolve_right h⟩
  have e0 : ∀ q, ¬ (6 * i ≤ q ∧ q < 6 * i + 6) → mReadsRefs S i t 24 236 q = S 236 q := fun q hq => @if_neg _ (Classical.propDecidable _) (fun ⟨_, j, a, b, c, d⟩ => by
    have : j.tdiv 4 = j / 4 := Int.tdiv_eq_ediv_of_nonneg a
    omega) _ _ _
  have fr : ∀ o q, o ≠ 236 → mReadsRefs S i t 24 o q = S o q := fun o q h => mReadsRefs_fr o q h
  have wh : ∀ t', 0 ≤ t' → t' < 6 → (mReadsRefs S i t 24 236 (6 * i + t') = 1 ↔ S 236 (6 * i + t') = 1 ∨ ∃ k, 0 ≤ k ∧ k < 24 ∧ S 206 k = t ∧ k.tdiv 4 = t') := fun t' h0 h1 => by
    rw [e236]
    constructor
    · rintro (q | ⟨j, a, b, c, d⟩)
      · exact Or.inl q
      · exact Or.inr ⟨j, a, b, c, by omega⟩
    · rintro (q | ⟨j, a, b, c, d⟩)
      · exact Or.inl q
      · exact Or.inr ⟨j, a, b, c, by omega⟩
  refine ⟨⟨fun j _ => fr 233 j (by decide), fun j _ => ⟨fr 234 j (by decide), fr 235 j (by decide)⟩, e0⟩, fun t' y h0 h1 => ?_, wh, by rw [fr 233 i (by decide)]; omega, fun h _ j => by rw [fr 234 j (by decide)]; exact h j, fun _ => fr 233 i (by decide)⟩
  unfold mRead
  rw [wh t' h0 h1, fr 233 i (by decide)]
  have : (∃ j, 2048 * i ≤ j ∧ j < 2048 * i + S 233 i ∧ (mReadsRefs S i t 24 234 j = t' ∧ mReadsRefs S i t 24 235 j = y)) ↔ ∃ j, 2048 * i ≤ j ∧ j < 2048 * i + S 233 i ∧ (S 234 j = t' ∧ S 235 j = y) := ⟨fun ⟨j, a, b, c, d⟩ => ⟨j, a, b, by rw [← fr 234 j (by decide)]; exact c, by rw [← fr 235 j (by decide)]; exact d⟩, fun ⟨j, a, b, c, d⟩ => ⟨j, a, b, by rw [fr 234 j (by decide)]; exact c, by rw [fr 235 j (by decide)]; exact d⟩⟩
  rw [this]
  constructor
  · rintro ((h | h) | h)
    · exact Or.inl (Or.inl h)
    · exact Or.inr (Or.inl h)
    · exact Or.inl (Or.inr h)
  · rintro ((h | h) | h | h)
    · exact Or.inl (Or.inl h)
    · exact Or.inr h
    · exact Or.inl (Or.inr h)
    · exact h.elim
theorem MrD.eq {S' S2 : IT} {W : Int → Prop} {Y : Int → Int → Prop} {c : Int} (h : MrD S S' i W Y c) (e : ∀ o, 233 ≤ o → o ≤ 236 → S2 o = S' o) : MrD S S2 i W Y c := by
  unfold MrD RdF mRead at *
  rw [e 233 (by decide) (by decide), e 234 (by decide) (by decide), e 235 (by decide) (by decide), e 236 (by decide) (by decide)]
  exact h
theorem MrD.eq0 {S0 S' : IT} {W : Int → Prop} {Y : Int → Int → Prop} {c : Int} (h : MrD S S' i W Y c) (e : ∀ o, 233 ≤ o → o ≤ 236 → S0 o = S o) : MrD S0 S' i W Y c := by
  unfold MrD RdF mRead at *
  rw [e 233 (by decide) (by decide), e 234 (by decide) (by decide), e 235 (by decide) (by decide), e 236 (by decide) (by decide)]
  exact h
/-- others' reads stay -/
theorem RdF.oth {S' : IT} {j t y : Int} (h : RdF S S' i) (hj : j ≠ i) (h0 : 0 ≤ S 233 j ∧ S 233 j ≤ 2048) (ht : 0 ≤ t ∧ t < 6) : (mRead S' j t y ↔ mRead S j t y) ∧ S' 236 (6 * j + t) = S 236 (6 * j + t) := by
  obtain ⟨f1, f2, f3⟩ := h
  have e := f3 (6 * j + t) (by omega)
  refine ⟨?_, e⟩
  unfold mRead
  rw [e, f1 j hj]
  have : ∀ k, 2048 * j ≤ k → k < 2048 * j + S 233 j → S' 234 k = S 234 k ∧ S' 235 k = S 235 k := fun k h1 h2 => f2 k (by omega)
  constructor
  · rintro (q | ⟨k, a, b, c, d⟩)
    · exact Or.inl q
    · exact Or.inr ⟨k, a, b, by rw [← (this k a b).1]; exact c, by rw [← (this k a b).2]; exact d⟩
  · rintro (q | ⟨k, a, b, c, d⟩)
    · exact Or.inl q
    · exact Or.inr ⟨k, a, b, by rw [(this k a b).1]; exact c, by rw [(this k a b).2]; exact d⟩
/-- reads by class and reference -/
def RdE (I S : IT) (i l : Nat) : Prop := (∀ t, 0 ≤ t → t < 6 → (whOf I i t ↔ S 236 (6 * (i : Int) + t) = 1)) ∧ ∀ t y, 0 ≤ t → t < 6 → (whOf I i t ∨ rdOf I i l t y ↔ mRead S i t y)
theorem RdE.step {I I2 S2 : IT} {i l l' m : Nat} {W W' : Int → Prop} {Y Y' : Int → Int → Prop} {c c' : Int} (h : RdE I S i l) (hd : RdD I I2 i l l' m W Y c) (hm : MrD S S2 i W' Y' c') (hW : ∀ t, 0 ≤ t → t < 6 → (W t ↔ W' t)) (hY : ∀ t y, 0 ≤ t → t < 6 → (Y t y ↔ Y' t y)) : RdE I2 S2 i l' := by
  refine ⟨fun t h0 h1 => ?_, fun t y h0 h1 => ?_⟩
  · rw [hd.2.2.2.1 t h0 h1, hm.2.2.1 t h0 h1, h.1 t h0 h1, hW t h0 h1]
  · rw [hm.2.1 t y h0 h1, ← h.2 t y h0 h1, hd.2.2.2.1 t h0 h1, hd.2.2.2.2 t y, hW t h0 h1, hY t y h0 h1]
    constructor
    · rintro ((q | q) | q | q)
      · exact Or.inl (Or.inl q)
      · exact Or.inr (Or.inl q)
      · exact Or.inl (Or.inr q)
      · exact Or.inr (Or.inr q)
    · rintro ((q | q) | q | q)
      · exact Or.inl (Or.inl q)
      · exact Or.inr (Or.inl q)
      · exact Or.inl (Or.inr q)
      · exact Or.inr (Or.inr q)
end
