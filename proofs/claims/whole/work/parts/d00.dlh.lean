/-! what an allowed write changes: numbers of cells -/
section
variable {I S S' A G W : IT} {i l : Nat} {s : Int}
/-- a place is in the least closed set -/
def lstP (D : IT) (p : Int) : Prop := ∀ X : Int → Prop, (∀ p, 0 ≤ p → p < 48 → D 1099 p ≠ 0 → X p) → (∀ c, 0 ≤ c → c < 192 → D 1101 c ≠ -1 → X (D 1101 c) → D 1038 (tslot c) = 1 → X (c / 4)) → X p
theorem spt_ex {D : IT} (hr : ∀ c, 0 ≤ c → c < 192 → D 1101 c = -1 ∨ (0 ≤ D 1101 c ∧ D 1101 c < 48)) (h01 : ∀ p, 0 ≤ p → p < 48 → D 1099 p = 0 ∨ D 1099 p = 1) : ∃ G, SpT D G ∧ ∀ c, 0 ≤ c → c < 192 → ¬ rfG G c 1 := by
  obtain ⟨G, hG⟩ : ∃ G : IT, ∀ o p, G o p = @ite _ (o = 1099 ∧ (0 ≤ p ∧ p < 48) ∧ lstP D p) (Classical.propDecidable _) 1 (D o p) := ⟨fun o p => @ite _ (o = 1099 ∧ (0 ≤ p ∧ p < 48) ∧ lstP D p) (Classical.propDecidable _) 1 (D o p), fun _ _ => rfl⟩
  have go : ∀ o, o ≠ 1099 → G o = D o := fun o ho => funext (fun p => by rw [hG, if_neg (fun z => ho z.1)])
  have gy : ∀ p, 0 ≤ p → p < 48 → lstP D p → G 1099 p = 1 := fun p p0 p1 hp => by rw [hG, if_pos ⟨rfl, ⟨p0, p1⟩, hp⟩]
  have gl : ∀ p, 0 ≤ p → p < 48 → G 1099 p ≠ 0 → lstP D p := fun p p0 p1 hp => by
    apply Classical.byContradiction
    intro no
    rw [hG, if_neg (fun z => no z.2.2)] at hp
    exact no (fun X hX _ => hX p p0 p1 hp)
  refine ⟨G, ⟨go, fun p hp => ?_, fun p p0 p1 => ?_, fun p hp => ?_, fun X hX hc p p0 p1 hp => gl p p0 p1 hp X hX hc⟩, fun c c0 c1 hg => ?_⟩
  · rw [hG, if_neg (fun z => by omega)]
  · by_cases y : lstP D p
    · exact Or.inr (gy p p0 p1 y)
    · rw [hG, if_neg (fun z => y z.2.2)]; exact h01 p p0 p1
  · rw [hG]
    split
    · decide
    · exact hp
  · obtain ⟨g1, g2, g3, g4⟩ := hg
    rw [go 1101 (by decide)] at g1 g2
    rw [go 1038 (by decide)] at g4
    have r := (hr c c0 c1).resolve_left g1
    have l1 := gl _ r.1 r.2 g2
    have l2 : lstP D (c / 4) := fun X hX hc => hc c c0 c1 g1 (l1 X hX hc) g4
    have := gy (c / 4) (by omega) (by omega) l2
    omega
theorem dlh_ex (h : TriH I S i l s) (k0 : S 227 i ≠ 0) (hF : mfind S s (S 228 i) (S 229 i) ≠ -1 ∧ mSeen S (S 220 i) s (S 228 i) (mfind S s (S 228 i) (S 229 i))) : ∃ G, DlH (alI I i) S i s G := by
  obtain ⟨hA, hcp, hpA, -⟩ := h.A
  have g9 := hpA.2.2.2.1 k0
  have sp := (seeP_eq hA g9).1.mpr hF
  obtain ⟨G, h1, h2⟩ := spt_ex (D := dlI (alI I i) i) (dlI_r (SchB.of2 hA.1.1 hA.1.2)) (fun p p0 p1 => dlI_g p p0 p1)
  exact ⟨G, hA, hcp, g9, sp, h1, h2⟩
/-- the cells of a row behind its key that aren't NULL -/
def nul1 (v : Int) : Nat := if v = -2147483648 then 0 else 1
theorem nul1_le (v : Int) : nul1 v ≤ 1 := by unfold nul1; split <;> omega
/-- the same, of the columns below w -/
def nulw (w c v : Int) : Nat := if c < w then nul1 v else 0
def ncl (w : Int) (ρ : Rw4) : Nat := nulw w 1 (g4 ρ 1) + nulw w 2 (g4 ρ 2) + nulw w 3 (g4 ρ 3)
/-- a row that goes by an allowed delete, and isn't the one that was named, refers by a cell -/
theorem del_why (h : DlH A S i s G) {t r : Int} (ht : 0 ≤ t ∧ t < 6) (r0 : 0 ≤ r) (r1 : r < S 214 (6 * s + t)) (hg : dX S i s 239 (64 * t + r) ≠ 0) : (t = S 228 i ∧ S 215 (mrow s t r) = S 229 i) ∨ ∃ c, (1 ≤ c ∧ c < S 201 t ∧ c < 4) ∧ S 215 (mrow s t r + c) ≠ -2147483648 := by
  have hm := h.1.2.2.2.1.1
  have hS := h.1.1.2
  obtain ⟨e1, e2, e3, -, -, -, -, least⟩ := dl_set h
  have t6 := h.1.t6
  obtain ⟨i1, i2, i3, i4, -⟩ := rowIn_ix hm ht r0 r1
  obtain ⟨j1, j2, j3, j4, -⟩ := rowIn_ix hm t6 e1 e2
  have := least (fun k => k = 64 * S 228 i + mfind S s (S 228 i) (S 229 i) ∨ ∃ c, (1 ≤ c ∧ c < S 201 (k.tdiv 64) ∧ c < 4) ∧ S 215 (mrow s (k.tdiv 64) (k.tmod 64) + c) ≠ -2147483648) (Or.inl rfl) (fun k k0 k1 hy => ?_) (64 * t + r) i3 i4 hg
  · rcases this with z | ⟨c, c0, c2⟩
    · have hr8 := (hm.1 t ht.1 ht.2).2
      have hr9 := (hm.1 _ t6.1 t6.2).2
      have et : t = S 228 i := by omega
      have er : r = mfind S s (S 228 i) (S 229 i) := by omega
      exact Or.inl ⟨et, by rw [er, et]; exact e3⟩
    · rw [i1, i2] at c2
      rw [i1] at c0
      exact Or.inr ⟨c, c0, c2⟩
  · obtain ⟨-, c, c0, c1, -, c3, -⟩ := hy
    have w4 : S 201 (k.tdiv 64) ≤ 4 := by
      by_cases y : 0 ≤ k.tdiv 64 ∧ k.tdiv 64 < S 100 0
      · exact (hS.2.1 _ y.1 y.2).2
      · have ik := ix_of k0 k1
        have := (hS.2.2.1 (k.tdiv 64) (by omega) (by omega)).1
        omega
    exact Or.inr ⟨c, ⟨c0, c1, by omega⟩, c3⟩
end
