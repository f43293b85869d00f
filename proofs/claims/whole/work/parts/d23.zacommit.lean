/-! a commit, counted -/
section
variable {I S : IT} {n N g k i : Nat} {lv mv : Nat → Nat} {q : Int}
theorem m24 {X : IT} {t : Int} {ρ : Rw4} : tIn (tbR X 4 t) (X 214 (24 + t)) ρ ↔ mIn X 4 t ρ := by
  have e : (6 : Int) * 4 + t = 24 + t := by omega
  unfold mIn tIn tbR
  rw [e]
/-- the reference's state behind a commit -/
theorem com_at (hE : ER I S n N g lv mv q) (hi : i < n) (o0 : S 221 i < 2) : (∀ o y, o ≠ 214 → o ≠ 215 → o ≠ 217 → o ≠ 218 → o ≠ 221 → o ≠ 225 → o ≠ 226 → (o < 246 ∨ 249 < o) → (o ≠ 100 ∨ (y ≠ 16 ∧ y ≠ 44 ∧ y ≠ 45)) → mCmE S i o y = S o y) ∧ (∀ j : Int, mCmE S i 221 j = if j = i then 2 else S 221 j) ∧ (∀ j : Int, mCmE S i 225 j = if j = i then -1 else S 225 j) ∧ mCmE S i 100 16 = S 100 16 + 1 ∧ mCmE S i 100 44 = ((N + 1 : Nat) : Int) ∧ mCmE S i 100 45 = S 100 44 + 1 ∧ (∀ r : Int, r ≠ N → mCmE S i 246 r = S 246 r ∧ mCmE S i 247 r = S 247 r ∧ mCmE S i 248 r = S 248 r ∧ mCmE S i 249 r = S 249 r) ∧ (mCmE S i 246 N = 1 ∧ mCmE S i 247 N = i) ∧ SlF S (mCmE S i) 4 ∧ (∀ t ρ, 0 ≤ t → t < 6 → mIn (mCmE S i) 4 t ρ → mIn S (S 223 i) t ρ ∨ mIn S 4 t ρ) := by
  have op : opS S n i := ⟨hi, o0⟩
  obtain ⟨hC, c16⟩ := cm_all hE op
  obtain ⟨c1, -, -, c4, -, -, c7⟩ := hC
  have s44 : S 100 44 = N := hE.cnt.2.1
  have u44 : mCmI S i 100 44 = N := (c7 100 44 (by decide) (by decide) (by decide) (by decide) (Or.inr (by decide))).trans s44
  have u23 : mCmI S i 223 i = S 223 i := c7 223 i (by decide) (by decide) (by decide) (by decide) (Or.inl (by decide))
  obtain ⟨b1, b2, b3, b4, -, b6, b7, T1, hX, b8⟩ := cme_at u44 u23
  have g14 : mCmE S i 214 = mCmI S i 214 := funext (fun y => b1 214 y (by decide) (by decide) (by decide) (by decide) (Or.inl (by decide)))
  have g15 : mCmE S i 215 = mCmI S i 215 := funext (fun y => b1 215 y (by decide) (by decide) (by decide) (by decide) (Or.inl (by decide)))
  refine ⟨fun o y h1 h2 h3 h4 h5 h6 h7 h8 h9 => ?_, fun j => ?_, fun j => ?_, (b2 16 (by decide) (by decide)).trans c16, b6, b7, fun r hr => ?_, ?_, ?_, fun t ρ t0 t1 hρ => ?_⟩
  · by_cases e : o = 100
    · subst e
      rw [b2 y (by omega) (by omega)]
      exact c7 100 y h1 h2 h3 h4 (Or.inr (by omega))
    · rw [b1 o y h5 h6 h7 e h8]
      exact c7 o y h1 h2 h3 h4 (Or.inl e)
  · rw [b3, c7 221 j (by decide) (by decide) (by decide) (by decide) (Or.inl (by decide))]
  · rw [b4, c7 225 j (by decide) (by decide) (by decide) (by decide) (Or.inl (by decide))]
  · obtain ⟨x1, x2, x3, x4⟩ := hX.2.2.1 r (by show ¬ ((N : Int) ≤ r ∧ r < (N : Int) + 1); omega)
    rw [b8 246 r (by decide) (by decide), b8 247 r (by decide) (by decide), b8 248 r (by decide) (by decide), b8 249 r (by decide) (by decide), x1, x2, x3, x4]
    exact ⟨c7 246 r (by decide) (by decide) (by decide) (by decide) (Or.inl (by decide)), c7 247 r (by decide) (by decide) (by decide) (by decide) (Or.inl (by decide)), c7 248 r (by decide) (by decide) (by decide) (by decide) (Or.inl (by decide)), c7 249 r (by decide) (by decide) (by decide) (by decide) (Or.inl (by decide))⟩
  · obtain ⟨x1, x2, -, -⟩ := hX.2.2.2 0 _ rfl
    rw [b8 246 N (by decide) (by decide), b8 247 N (by decide) (by decide)]
    exact ⟨x1, x2⟩
  · unfold SlF at *
    rw [g14, g15]
    exact c4
  · have a : mIn (mCmI S i) 4 t ρ := (mIn_of2 g14 g15 t ρ).mp hρ
    rcases (c1 t ρ t0 t1).mp (m24.mpr a) with z | z
    · exact Or.inl z.2
    · exact Or.inr z.2
theorem ZA.committed (h : ZA k (-1) S) (hE : ER I S n N g lv mv q) (hi : i < n) (o0 : S 221 i < 2) : ZA (k + 1) (-1) (mCmE S i) := by
  obtain ⟨hd, en⟩ := hE.wrd
  obtain ⟨fr, f21, -, -, f44, -, fR, fN, sl, f4⟩ := com_at hE hi o0
  have s44 : S 100 44 = N := hE.cnt.2.1
  have own := hE.own
  have sl1 := hE.sl.1
  have mbp := hE.mb.pla
  generalize mCmE S i = T at *
  have g1 : T 201 = S 201 := funext (fun y => fr 201 y (by decide) (by decide) (by decide) (by decide) (by decide) (by decide) (by decide) (Or.inl (by decide)) (Or.inl (by decide)))
  have g23 : T 223 = S 223 := funext (fun y => fr 223 y (by decide) (by decide) (by decide) (by decide) (by decide) (by decide) (by decide) (Or.inl (by decide)) (Or.inl (by decide)))
  have g27 : T 227 = S 227 := funext (fun y => fr 227 y (by decide) (by decide) (by decide) (by decide) (by decide) (by decide) (by decide) (Or.inl (by decide)) (Or.inl (by decide)))
  have g28 : T 228 = S 228 := funext (fun y => fr 228 y (by decide) (by decide) (by decide) (by decide) (by decide) (by decide) (by decide) (Or.inl (by decide)) (Or.inl (by decide)))
  have wk : ∀ j x, WrK T j x ↔ WrK S j x := fun j x => by
    constructor
    · rintro ⟨r, r0, r1, r2, r3, r4, r5⟩
      have ne : r ≠ (N : Int) := fun e => by rw [e, fN.1] at r2; exact absurd r2 (by decide)
      obtain ⟨a, b, c, d⟩ := fR r ne
      rw [f44] at r1
      exact ⟨r, r0, by rw [s44]; omega, a.symm.trans r2, b.symm.trans r3, c.symm.trans r4, d.symm.trans r5⟩
    · rintro ⟨r, r0, r1, r2, r3, r4, r5⟩
      rw [s44] at r1
      obtain ⟨a, b, c, d⟩ := fR r (by omega)
      exact ⟨r, r0, by rw [f44]; omega, a.trans r2, b.trans r3, c.trans r4, d.trans r5⟩
  have wn : ∀ j, wN T j = wN S j := fun j => by
    unfold wN
    rw [f44, s44, Int.toNat_natCast, Int.toNat_natCast]
    have e : unM T j (N + 1) = unM T j N := if_neg (fun z => by rw [fN.1] at z; exact absurd z.1 (by decide))
    rw [e]
    exact un_same N (fun r hr => by
      obtain ⟨a, b, -, -⟩ := fR r (by omega)
      exact ⟨a, b⟩)
  refine h.ends (j0 := i) hd (by rw [en]; exact hi) o0 ⟨Nat.le_succ _, Or.inr (Nat.le_refl _)⟩ g1 (fr 100 19 (by decide) (by decide) (by decide) (by decide) (by decide) (by decide) (by decide) (Or.inl (by decide)) (Or.inr (by decide))) (Int.le_of_eq (fr 100 37 (by decide) (by decide) (by decide) (by decide) (by decide) (by decide) (by decide) (Or.inl (by decide)) (Or.inr (by decide)))) (by rw [f44, s44]; omega) (fun j _ => ?_) (fun j _ wj => ?_) (fun t ρ t0 t1 hρ => ⟨ρ, rfl, (f4 t ρ t0 t1 hρ).symm⟩) (fun j hj oj ne => ?_)
  · unfold opA
    rw [f21]
    by_cases e : (j : Int) = i
    · rw [if_pos e]
      exact ⟨fun z => absurd z (by decide), fun z => absurd (by omega) z.2⟩
    · rw [if_neg e]
      exact ⟨fun z => ⟨z, by omega⟩, fun z => z.1⟩
  · have rv : rsv T j = rsv S j := by unfold rsv; rw [g27, g28, g1]
    rcases wj with z | z
    · rw [f21] at z
      by_cases e : (j : Int) = i
      · rw [if_pos e] at z
        omega
      · rw [if_neg e] at z
        exact ⟨⟨Or.inl z, by omega⟩, rv⟩
    · omega
  · rw [en] at hj
    have ow := (own j ⟨hj, oj⟩).2.1
    have p := mbp j
    have s := sl.oth (q := S 223 j) (by omega) ow
    refine ⟨fun t ρ t0 t1 hρ => by rw [g23] at hρ; exact (s.1 t ρ t0 t1).mp hρ, wk j, Nat.le_of_eq (wn j), Nat.le_of_eq (wn j).symm, fun x x0 x1 => ?_⟩
    rw [g23]
    exact cw_same ow s.2 ⟨x0, x1⟩ (fun ρ _ => s.1 x.1 ρ x0 x1)
end
