/-! one of those under way comes to its end -/
section
variable {S S' : IT} {k k' : Nat} {i i' : Int}
theorem oS_zz {p : Nat → Prop} {f g : Nat → Nat} {n : Nat} (h : ∀ j, j < n → p j → f j = g j) : oS p f n = oS p g n := oS_eq n (fun j hj => ⟨Iff.rfl, h j hj⟩)
theorem ZA.up (h : ZA k i S) (hk : k ≤ k') : ZA k' i S := by
  obtain ⟨Kv, E, d, b, cB, chk, hK, hE, hW, h1, hb, hN⟩ := h
  exact ⟨Kv, E, d, b, cB, chk, hK, hE, hW, by omega, hb, hN⟩
/-- what of another one, j, is as it was -/
def SmO (S S' : IT) (j : Nat) : Prop := (∀ t ρ, 0 ≤ t → t < 6 → mIn S' (S' 223 j) t ρ → mIn S (S 223 j) t ρ) ∧ (∀ x, WrK S' j x ↔ WrK S j x) ∧ wN S' j ≤ wN S j ∧ wN S j ≤ wN S' j ∧ ∀ x : Int × Int, 0 ≤ x.1 → x.1 < 6 → cw (S 201 x.1) S' (S' 223 j) x.1 x.2 = cw (S 201 x.1) S (S 223 j) x.1 x.2
theorem SmO.slk {j : Nat} (h : SmO S S' j) (e1 : S' 201 = S 201) {Kv : List (Int × Int)} (hK : ∀ x, x ∈ Kv → 0 ≤ x.1 ∧ x.1 < 6) : kS (slk S (S 223 j) (WrK S j)) Kv ≤ kS (slk S' (S' 223 j) (WrK S' j)) Kv := by
  refine kS_le Kv (fun x hx => ?_)
  have x6 := hK x hx
  by_cases y : WrK S j x
  · rw [slk_y y, slk_y ((h.2.1 x).mpr y), e1, h.2.2.2.2 x x6.1 x6.2]
    exact Nat.le_refl _
  · rw [slk_n y]; exact Nat.zero_le _
theorem ZA.ends {j0 : Nat} (h : ZA k i S) (hd : WrD S) (hi : j0 < nS S) (oi : opA S j0) (hk : k ≤ k' ∧ (wtA S i j0 ∨ k + 1 ≤ k')) (e1 : S' 201 = S 201) (e19 : S' 100 19 = S 100 19) (e37 : S' 100 37 ≤ S 100 37) (e44 : (S' 100 44).toNat ≤ (S 100 44).toNat + wN S j0 + 1) (ho : ∀ j, j < nS S → (opA S' j ↔ opA S j ∧ j ≠ j0)) (hw : ∀ j, j < nS S → wtA S' i' j → (wtA S i j ∧ j ≠ j0) ∧ rsv S' j = rsv S j) (h4 : ∀ t ρ, 0 ≤ t → t < 6 → mIn S' 4 t ρ → ∃ σ, σ.1 = ρ.1 ∧ (mIn S 4 t σ ∨ mIn S (S 223 j0) t σ)) (hs : ∀ j, j < nS S → opA S j → j ≠ j0 → SmO S S' j) : ZA k' i' S' := by
  obtain ⟨Kv, E, d, b, cB, chk, hK, hE, hW, hc, hb, hN⟩ := h
  have en : nS S' = nS S := by unfold nS; rw [e19]
  have ecap : capF S' = capF S := funext (fun x => by unfold capF; rw [e1])
  have eop : ∀ f : Nat → Nat, oS (opA S') f (nS S) = oS (fun j => opA S j ∧ j ≠ j0) f (nS S) := fun f => oS_eq (nS S) (fun j hj => ⟨ho j hj, fun _ => rfl⟩)
  have slI : kS (slk S (S 223 j0) (WrK S j0)) Kv ≤ kS (capF S) Kv := kS_le Kv (fun x _ => (slk_le _ _ x).1)
  have wI := hW j0 hi oi
  have r1 := oS_rm (f := fun j => 1 + d j) oi (nS S) hi
  have r2 := oS_rm (f := b) oi (nS S) hi
  have r3 := oS_rm (f := wN S) oi (nS S) hi
  have K6 : ∀ x, x ∈ Kv → 0 ≤ x.1 ∧ x.1 < 6 := fun x hx => (hK.1.2 x hx).2
  have r4 : oS (wtA S' i') (rsv S') (nS S) + 1 ≤ oS (wtA S i) (rsv S) (nS S) ∨ (oS (wtA S' i') (rsv S') (nS S) ≤ oS (wtA S i) (rsv S) (nS S) ∧ k + 1 ≤ k') := by
    have a1 : oS (wtA S' i') (rsv S') (nS S) = oS (wtA S' i') (rsv S) (nS S) := oS_zz (fun j hj wj => (hw j hj wj).2)
    rcases hk.2 with y | y
    · refine Or.inl ?_
      have p1 : 1 ≤ rsv S j0 := by
        unfold rsv
        split <;> omega
      have a2 := oS_rm (f := rsv S) y (nS S) hi
      have a3 := oS_sub (p := fun j => wtA S i j ∧ j ≠ j0) (p' := wtA S' i') (f := rsv S) (nS S) (fun j hj wj => (hw j hj wj).1)
      omega
    · have a3 := oS_sub (p := wtA S i) (p' := wtA S' i') (f := rsv S) (nS S) (fun j hj wj => (hw j hj wj).1.1)
      exact Or.inr ⟨by omega, y⟩
  refine ⟨Kv, (wN S j0, 1, d j0, b j0) :: E, d, b, cB, chk, ⟨⟨hK.1.1, fun x hx => by rw [e1]; exact hK.1.2 x hx⟩, fun t ρ t0 t1 hρ => ?_, fun j hj oj => ?_⟩, fun g hg => ?_, fun j hj oj => ?_, ?_, ?_, ?_⟩
  · obtain ⟨σ, a, c⟩ := h4 t ρ t0 t1 hρ
    rw [← a]
    rcases c with c | c
    · exact hK.2.1 t σ t0 t1 c
    · exact (hK.2.2 j0 hi oi).1 t σ t0 t1 c
  · rw [en] at hj
    obtain ⟨o1, o2⟩ := (ho j hj).mp oj
    obtain ⟨a, c⟩ := hK.2.2 j hj o1
    have sm := hs j hj o1 o2
    exact ⟨fun t ρ t0 t1 hρ => a t ρ t0 t1 (sm.1 t ρ t0 t1 hρ), fun x hx => c x ((sm.2.1 x).mp hx)⟩
  · rw [ecap]
    rcases List.mem_cons.mp hg with z | z
    · rw [z]
      refine ⟨⟨wI.1, ?_⟩, Nat.le_refl _⟩
      show wN S j0 ≤ d j0 + b j0 + kS (capF S) Kv
      have := wI.2
      omega
    · exact hE g z
  · rw [en] at hj
    obtain ⟨o1, o2⟩ := (ho j hj).mp oj
    have sm := hs j hj o1 o2
    have sl := sm.slk e1 K6
    have w := hW j hj o1
    have := sm.2.2.1
    exact ⟨by omega, by omega⟩
  · rw [ecap, en, eop]
    show kS (capF S) Kv + 2 * Kv.length + cB + chk + ((1 + 1 + d j0) + gqS gqC E) + oS (fun j => opA S j ∧ j ≠ j0) (fun j => 1 + d j) (nS S) + (S' 100 37).toNat + oS (wtA S' i') (rsv S') (nS S) ≤ k'
    omega
  · rw [en, eop]
    show (b j0 + gqS gqB E) + oS (fun j => opA S j ∧ j ≠ j0) b (nS S) ≤ _
    omega
  · rw [en, eop]
    have := oS_le (p := fun j => opA S j ∧ j ≠ j0) (f := wN S) (g := wN S') (nS S) (fun j hj oj => (hs j hj oj.1 oj.2).2.2.2.1)
    show _ ≤ ((2 * wN S j0 + 1) + gqS gqW E) + _ + chk
    omega
end
