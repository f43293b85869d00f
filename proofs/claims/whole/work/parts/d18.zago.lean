/-! one that waited goes on, counted -/
section
variable {S : IT} {k i : Nat}
theorem ZA.go (h : ZA k (-1) S) (h1 : S 221 i = 1) : ZA k i (mGo S i) := by
  have e21 : ∀ j : Int, mGo S i 221 j = if j = (i : Int) then 0 else S 221 j := fun j => by
    unfold mGo
    rw [up2_o _ _ _ _ (by decide)]
    by_cases e : j = (i : Int)
    · rw [if_pos e, e, up2_eq]
    · rw [if_neg e, up2_k _ _ _ _ e]
  have fo : ∀ o y, o ≠ 221 → o ≠ 225 → mGo S i o y = S o y := fun o y a b => by
    unfold mGo
    rw [up2_o _ _ _ _ b, up2_o _ _ _ _ a]
  refine h.keep (fun o ho => funext (fun y => fo o y (by omega) (by omega))) (fo 100 19 (by decide) (by decide)) (fo 100 44 (by decide) (by decide)) (Int.le_of_eq (fo 100 37 (by decide) (by decide))) (fun j _ => ?_) (fun j _ wj => ?_)
  · unfold opA
    rw [e21]
    by_cases e : (j : Int) = i
    · rw [if_pos e, e, h1]; decide
    · rw [if_neg e]
  · rcases wj with z | z
    · rw [e21] at z
      by_cases e : (j : Int) = i
      · rw [if_pos e] at z; omega
      · rw [if_neg e] at z; exact Or.inl z
    · exact Or.inl (by rw [z]; exact h1)
end
