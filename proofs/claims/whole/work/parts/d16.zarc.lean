/-! a try's records fit -/
section
variable {I S : IT} {k n N g i l : Nat} {q : Int} {lv mv : Nat → Nat}
theorem ZA.rc (h : ZA k i S) (hE : ER I S n N g lv mv q) (hT : TriH I S i l (S 223 i)) (hi : i < n) (o0 : S 221 i = 0) (hQ : mWantQ (up2 S 100 41 0) i) (k5 : k ≤ 512) (h25 : ∀ x : Int, 0 ≤ x → x < 60 → S 225 x = -1 ∨ (0 ≤ S 225 x ∧ S 225 x < 60)) : RcB (mWantI (up2 S 100 41 0) i) i := by
  obtain ⟨hd, en⟩ := hE.wrd
  have fW := wantFr (S := S) (i := i)
  have fWu : ∀ o, (o < 233 ∨ 243 < o) → o ≠ 100 → mWantI (up2 S 100 41 0) i o = S o := fun o a b => funext (fun y => fW o y a (Or.inl b))
  have w44 : mWantI (up2 S 100 41 0) i 100 44 = N := (fW 100 44 (by decide) (Or.inr (by decide))).trans hE.cnt.2.1
  have s44 : S 100 44 = N := hE.cnt.2.1
  obtain ⟨z1, z2⟩ := h.num hd k5
  have z3 := z2 i (by rw [en]; exact hi) (by unfold opA; rw [o0]; decide) (Or.inr rfl)
  have ewn : (unM (mWantI (up2 S 100 41 0) i) i N).length = wN S i := by
    unfold wN
    rw [s44, Int.toNat_natCast]
    exact un_same _ (fun r _ => by rw [fWu 246 (by decide) (by decide), fWu 247 (by decide) (by decide)]; exact ⟨rfl, rfl⟩)
  have ab := (mAb_X (S := mWantI (up2 S 100 41 0) i) (i := (i : Int)) (N := N) N (mWantI (up2 S 100 41 0) i) N 0 (Nat.le_refl _) (Nat.le_refl _) w44 (fun r _ => ⟨rfl, rfl, rfl, rfl⟩)).1.2.1
  rw [ewn] at ab
  rw [s44, Int.toNat_natCast] at z1 z3
  obtain ⟨n', hn, nd, f6, -, -, -, old, ins, upd, -, -⟩ := wr_all hT hQ (W2 := mWantI (up2 S 100 41 0) i) (fun _ _ _ _ => rfl)
  have n48 : n' ≤ 48 := by
    by_cases k0 : S 227 i = 0
    · have := (ins k0).1; omega
    · have := rows48 hT.2.2.1.1 nd (fun x hx => ⟨f6 x hx, old k0 x hx⟩)
      unfold wtL at this
      rw [List.length_map, List.length_range] at this
      exact this
  refine ⟨⟨?_, ?_⟩, fun x x0 x1 => ?_⟩
  · rw [w44, Int.toNat_natCast, ab]
    omega
  · rw [w44, hn]
    omega
  · rw [fWu 225 (by decide) (by decide)]
    exact h25 x x0 x1
end
