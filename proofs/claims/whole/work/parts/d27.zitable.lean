/-! a table comes: the account -/
section
variable {S S' : IT} {k : Nat}
theorem ZI.table (h : ZI k (-1) S) (hs : SSch S) (hno : ∀ j, j < nS S → ¬ opA S j) (e : ∀ o y, ¬ (o = 201 ∧ y = S 100 0) → o ≠ 263 → ¬ (o = 100 ∧ y = 0) → S' o y = S o y) (e0 : S' 100 0 = S 100 0 + 1) : ZI k (-1) S' := by
  obtain ⟨⟨Kv, E, d, b, cB, chk, hK, hE, hW, hk, hb, hN⟩, h1, h2, h3, h4, h5, h6⟩ := h
  have fu : ∀ o, o ≠ 201 → o ≠ 263 → o ≠ 100 → S' o = S o := fun o a b c => funext (fun y => e o y (fun z => a z.1) b (fun z => c z.1))
  have f1 : ∀ y, y ≠ 0 → S' 100 y = S 100 y := fun y hy => e 100 y (by omega) (by decide) (fun z => hy z.2)
  have f4 := fu 214 (by decide) (by decide) (by decide)
  have f5 := fu 215 (by decide) (by decide) (by decide)
  have f21 := fu 221 (by decide) (by decide) (by decide)
  have f6 := fu 246 (by decide) (by decide) (by decide)
  have f7 := fu 247 (by decide) (by decide) (by decide)
  have f8 := fu 248 (by decide) (by decide) (by decide)
  have f9 := fu 249 (by decide) (by decide) (by decide)
  have en : nS S' = nS S := by unfold nS; rw [f1 19 (by decide)]
  have w : ∀ x, x ∈ Kv → S' 201 x.1 = S 201 x.1 := fun x hx => e 201 x.1 (fun z => by
    have a := hK.1.2 x hx
    have := (hs.2.2.1 x.1 (by omega) a.2.2).1
    omega) (by decide) (by omega)
  have ecap : kS (capF S') Kv = kS (capF S) Kv := Nat.le_antisymm (kS_le Kv (fun x hx => by unfold capF; rw [w x hx]; exact Nat.le_refl _)) (kS_le Kv (fun x hx => by unfold capF; rw [w x hx]; exact Nat.le_refl _))
  have eop : opA S' = opA S := funext (fun j => by unfold opA; rw [f21])
  have nop : ∀ f : Nat → Nat, oS (opA S) f (nS S) = 0 := fun f => oS_nop _ hno
  have ewt : oS (wtA S' (-1)) (rsv S') (nS S) = 0 := oS_nop _ (fun j hj z => z.elim (fun y => hno j hj (by
    unfold opA
    rw [f21] at y
    rw [y]; decide)) (fun y => by omega))
  refine ⟨⟨Kv, E, d, b, cB, chk, ⟨⟨hK.1.1, fun x hx => by rw [w x hx]; exact hK.1.2 x hx⟩, fun t ρ t0 t1 hρ => hK.2.1 t ρ t0 t1 ((mIn_of2 f4 f5 t ρ).mp hρ), fun j hj oj => ?_⟩, fun g hg => by rw [ecap]; exact hE g hg, fun j hj oj => ?_, ?_, ?_, ?_⟩, fun r r0 r1 r2 => ?_, ?_, h3.of (f1 19 (by decide)) (fu 233 (by decide) (by decide) (by decide)) (fu 236 (by decide) (by decide) (by decide)), fun r r0 r1 r2 => ?_, ab_of h5 (fun o a b => fu o (by omega) (by omega) (by omega)) (f1 44 (by decide)) (f1 45 (by decide)), fun j hj h21 hx => ?_⟩
  · rw [en] at hj
    rw [eop] at oj
    exact absurd oj (hno j hj)
  · rw [en] at hj
    rw [eop] at oj
    exact absurd oj (hno j hj)
  · rw [ecap, en, eop, nop, ewt, f1 37 (by decide)]
    rw [nop] at hk
    omega
  · rw [en, eop]; exact hb
  · rw [en, eop, nop, f1 44 (by decide)]
    rw [nop] at hN
    exact hN
  · rw [e0, f8]
    rw [f1 44 (by decide)] at r1
    rw [f6] at r2
    have := h1 r r0 r1 r2
    omega
  · unfold WaB
    rw [fu 225 (by decide) (by decide) (by decide)]
    exact h2
  · rw [f1 44 (by decide)] at r1
    rw [f6] at r2
    rw [f1 45 (by decide)]
    exact h4 r r0 r1 r2
  · rw [f1 19 (by decide)] at hj
    rw [f21] at h21
    rw [f1 44 (by decide), f6, f7] at *
    exact h6 j hj h21 hx
end
