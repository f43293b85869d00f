/-! a transaction commits: the relation behind it -/
section
variable {I I' : IT} {a a' : Nat} {t y c : Int}
/-- cells of a key depend on the rows with that key alone -/
theorem cell_key (hW : RWc I a) (hW' : RWc I' a') (ht : 0 ≤ t ∧ t < 6) (h : ∀ ρ : Rw4, ρ.1 = y → (cIn I' a' t ρ ↔ cIn I a t ρ)) (hc : 0 ≤ c ∧ c < 4) : rwCell I' a' t y c = rwCell I a t y c ∧ (rwFind I' a' t y = -1 ↔ rwFind I a t y = -1) := by
  have f := rwFind_in (I := I) (a := a) (y := y) ht
  have f' := rwFind_in (I := I') (a := a') (y := y) ht
  have ff : rwFind I' a' t y ≠ -1 ↔ rwFind I a t y ≠ -1 := by
    rw [f, f']
    exact ⟨fun ⟨ρ, x, z⟩ => ⟨ρ, (h ρ z).mp x, z⟩, fun ⟨ρ, x, z⟩ => ⟨ρ, (h ρ z).mpr x, z⟩⟩
  have ff' : rwFind I' a' t y = -1 ↔ rwFind I a t y = -1 := ⟨fun z => Classical.byContradiction (fun w => ff.mpr w z), fun z => Classical.byContradiction (fun w => ff.mp w z)⟩
  refine ⟨?_, ff'⟩
  unfold rwCell
  by_cases e : rwFind I a t y = -1
  · rw [if_pos e, if_pos (ff'.mpr e)]
  · rw [if_neg e, if_neg (ff.mpr e)]
    have yn : y ≠ -2147483648 := fun z => e (by unfold rwFind; rw [if_pos z])
    obtain ⟨p1, p2, p3⟩ := (rwFind_rg I a t y).resolve_left e
    obtain ⟨r1, r2, r3⟩ := (rwFind_rg I' a' t y).resolve_left (ff.mpr e)
    generalize rwFind I a t y = p at *
    generalize rwFind I' a' t y = r at *
    obtain ⟨s, s1, s2, s3, s4⟩ := (h (q4 (I' a') (r * 4)) r3).mp ⟨r, r1, r2, by rw [r3]; exact yn, rfl⟩
    have e1 : I' a' (r * 4) = I a (s * 4) := congrArg Prod.fst s4
    have ps : p = s := hW.1 t p s ht.1 ht.2 p1 p2 s1 s2 (by rw [p3]; exact yn) (by rw [p3, ← e1, r3])
    subst ps
    have := congrArg (fun ρ => g4 ρ c) s4
    simp only [g4_q (f := I' a') (b := r * 4) (c := c) hc, g4_q (f := I a) (b := p * 4) (c := c) hc] at this
    exact this
end
section
variable {I S I5 : IT} {K K' : KT} {P P' : PT} {n N g g' i : Nat} {lv mv : Nat → Nat} {q : Int}
/-- the reference's state behind a commit -/
theorem cme_at (h44 : mCmI S i 100 44 = N) (e23 : mCmI S i 223 i = S 223 i) : (∀ o k, o ≠ 221 → o ≠ 225 → o ≠ 226 → o ≠ 100 → (o < 246 ∨ 249 < o) → mCmE S i o k = mCmI S i o k) ∧ (∀ k, k ≠ 44 → k ≠ 45 → mCmE S i 100 k = mCmI S i 100 k) ∧ (∀ j : Int, mCmE S i 221 j = if j = i then 2 else mCmI S i 221 j) ∧ (∀ j : Int, mCmE S i 225 j = if j = i then -1 else mCmI S i 225 j) ∧ (∀ p : Int, mCmE S i 226 p = if p = S 223 i then 0 else mCmI S i 226 p) ∧
    mCmE S i 100 44 = ((N + 1 : Nat) : Int) ∧ mCmE S i 100 45 = S 100 44 + 1 ∧ ∃ T1, MlX (mCmI S i) T1 N [(1, (i : Int), -2147483648, -2147483648)] ∧ ∀ o k, 246 ≤ o → o ≤ 249 → mCmE S i o k = T1 o k := by
  have m1 := MlX.one (S := mCmI S i) (k := 1) (i := (i : Int)) (t := -2147483648) (y := -2147483648) h44
  have u : ∀ o k, (o < 246 ∨ 249 < o) → (o ≠ 100 ∨ k ≠ 44) → mnotes (mCmI S i) 1 i (-2147483648) (-2147483648) o k = mCmI S i o k := m1.1
  have e23' : up2 (mnotes (mCmI S i) 1 i (-2147483648) (-2147483648)) 100 45 (S 100 44 + 1) 223 i = S 223 i := by
    rw [up2_o _ _ _ _ (by decide), u 223 i (by decide) (Or.inl (by decide))]; exact e23
  unfold mCmE mends
  rw [e23']
  refine ⟨fun o k a b c d e => ?_, fun k a b => ?_, fun j => ?_, fun j => ?_, fun p => ?_, ?_, ?_, _, m1, fun o k a b => ?_⟩
  · rw [up2_o _ _ _ _ c, up2_o _ _ _ _ b, up2_o _ _ _ _ a, up2_o _ _ _ _ d]; exact u o k e (Or.inl d)
  · rw [up2_o _ _ _ _ (by decide), up2_o _ _ _ _ (by decide), up2_o _ _ _ _ (by decide), up2_k _ _ _ _ b]; exact u 100 k (by decide) (Or.inr a)
  · rw [up2_o _ _ _ _ (by decide), up2_o _ _ _ _ (by decide)]
    by_cases e : j = i
    · rw [if_pos e, e, up2_eq]
    · rw [if_neg e, up2_k _ _ _ _ e, up2_o _ _ _ _ (by decide)]; exact u 221 j (by decide) (Or.inl (by decide))
  · rw [up2_o _ _ _ _ (by decide)]
    by_cases e : j = i
    · rw [if_pos e, e, up2_eq]
    · rw [if_neg e, up2_k _ _ _ _ e, up2_o _ _ _ _ (by decide), up2_o _ _ _ _ (by decide)]; exact u 225 j (by decide) (Or.inl (by decide))
  · by_cases e : p = S 223 i
    · rw [if_pos e, e, up2_eq]
    · rw [if_neg e, up2_k _ _ _ _ e, up2_o _ _ _ _ (by decide), up2_o _ _ _ _ (by decide), up2_o _ _ _ _ (by decide)]; exact u 226 p (by decide) (Or.inl (by decide))
  · rw [up2_o _ _ _ _ (by decide), up2_o _ _ _ _ (by decide), up2_o _ _ _ _ (by decide), up2_k _ _ _ _ (by decide)]; exact m1.2.1
  · rw [up2_o _ _ _ _ (by decide), up2_o _ _ _ _ (by decide), up2_o _ _ _ _ (by decide), up2_eq]
  · rw [up2_o _ _ _ _ (by omega), up2_o _ _ _ _ (by omega), up2_o _ _ _ _ (by omega), up2_o _ _ _ _ (by omega)]
/-- the class's numbers behind a commit -/
theorem stI_at {m : Nat} (hi : i < 60) : (∀ o, o ≠ 1161 → o ≠ 1064 → o ≠ 1070 → o ≠ 1071 → o ≠ 1069 → o ≠ tX i → stI I i m o = I o) ∧ (stI I i m 1161 = puI i (tX i + 33) 48 (rmI i 48 I) 1161) ∧ (∀ z, stI I i m 1064 z = if z = 7 then I 1064 7 + 1 else I 1064 z) ∧
    (∀ z, (FpS I i m z → stI I i m 1070 z = I 1064 7 + 1) ∧ (¬ FpS I i m z → stI I i m 1070 z = I 1070 z)) ∧ (∀ z, ((∃ x, FpS I i m x ∧ x / 2001 = z) → stI I i m 1071 z = I 1064 7 + 1) ∧ ((¬ ∃ x, FpS I i m x ∧ x / 2001 = z) → stI I i m 1071 z = I 1071 z)) ∧
    (∀ z, (FpS I i m z → stI I i m 1069 z = -1) ∧ (¬ FpS I i m z → stI I i m 1069 z = I 1069 z)) ∧ ∀ z, stI I i m (tX i) z = if z = 6 then -1 else if z = 4 then 2 else I (tX i) z := by
  have x0 : 2000 ≤ tX i ∧ tX i + 128 ≤ 10000 := by unfold tX; omega
  have po := fun o (h : o ≠ 1161) => (puI_o (I := rmI i 48 I) (i := (i : Int)) (a := tX i + 33) 48 o h).trans (rmI_o (I := I) (i := (i : Int)) 48 o h)
  have so := fun o (h : o ≠ 1161) (h1 : o ≠ 1064) (h2 : o ≠ 1070) (h3 : o ≠ 1071) => (smI_o (I := puI i (tX i + 33) 48 (rmI i 48 I)) (f := tX i + 80 + m) h1 h2 h3 (I (tX i) 17).toNat).trans (po o h)
  have p80 := po (tX i + 80 + m) (by omega)
  have s80 := so (tX i + 80 + m) (by omega) (by omega) (by omega) (by omega)
  have fp : ∀ z, FpS I i m z ↔ ∃ q : Nat, q < (I (tX i) 17).toNat ∧ I (tX i + 80 + m) (q : Int) = z := fun z => by
    unfold FpS
    exact ⟨fun ⟨p, p0, p1, p2⟩ => ⟨p.toNat, by omega, by rw [show ((p.toNat : Nat) : Int) = p by omega]; exact p2⟩, fun ⟨p, p0, p1⟩ => ⟨p, by omega, by omega, p1⟩⟩
  refine ⟨fun o h h1 h2 h3 h4 h5 => ?_, ?_, fun z => ?_, fun z => ?_, fun z => ?_, fun z => ?_, fun z => ?_⟩
  · unfold stI; rw [fiI_o h5 h4]; exact so o h h1 h2 h3
  · unfold stI; rw [fiI_o (by omega) (by decide), smI_o (by decide) (by decide) (by decide)]
  · unfold stI; rw [fiI_o (by omega) (by decide), smI_e, po 1064 (by decide)]
  · unfold stI
    rw [fiI_o (by omega) (by decide), fp]
    obtain ⟨A, B⟩ := smI_s (I := puI i (tX i + 33) 48 (rmI i 48 I)) (f := tX i + 80 + m) z (I (tX i) 17).toNat
    rw [p80, po 1064 (by decide), po 1070 (by decide)] at *
    exact ⟨A, fun h => B (fun q hq e => h ⟨q, hq, e⟩)⟩
  · unfold stI
    rw [fiI_o (by omega) (by decide)]
    obtain ⟨A, B⟩ := smI_t (I := puI i (tX i + 33) 48 (rmI i 48 I)) (f := tX i + 80 + m) z (I (tX i) 17).toNat
    rw [p80, po 1064 (by decide), po 1071 (by decide)] at *
    exact ⟨fun ⟨x, hx, e⟩ => by
      obtain ⟨q, q0, q1⟩ := (fp x).mp hx
      exact A ⟨q, q0, by rw [q1]; exact e⟩, fun h => B (fun q hq e => h ⟨_, (fp _).mpr ⟨q, hq, rfl⟩, e⟩)⟩
  · unfold stI
    rw [fp]
    refine ⟨fun ⟨p, p0, p1⟩ => fiI_w (by omega) z _ ⟨p, p0, by rw [s80]; exact p1⟩, fun hz => ?_⟩
    rw [fiI_n (by omega) z _ (fun p hp e => hz ⟨p, hp, by rw [← s80]; exact e⟩), so 1069 (by decide) (by decide) (by decide) (by decide)]
  · unfold stI
    rw [fiI_x (by omega), so (tX i) (by omega) (by omega) (by omega) (by omega)]
end
