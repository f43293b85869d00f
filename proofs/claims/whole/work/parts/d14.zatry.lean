/-! a try, counted: refused, waiting, undone -/
section
variable {I S W T S' : IT} {k N i l : Nat} {x v : Int}
theorem ab_none {j : Int} {n : Nat} : ∀ m : Nat, ((unM S i m).filter (rq j)).length = 0
  | 0 => rfl
  | m + 1 => by
    have ih := ab_none (j := j) (n := n) m
    by_cases y : S 246 m = 0 ∧ S 247 m = i
    · have e1 : unM S i (m + 1) = (2, (i : Int), S 248 m, S 249 m) :: unM S i m := if_pos y
      have e3 : ¬ rq j (2, (i : Int), S 248 m, S 249 m) = true := fun z => by
        unfold rq at z
        rw [Bool.and_eq_true] at z
        exact absurd (of_decide_eq_true z.1 : (2 : Int) = 0) (by decide)
      rw [e1, List.filter_cons_of_neg e3, ih]
    · have e1 : unM S i (m + 1) = unM S i m := if_neg y
      rw [e1, ih]
theorem abM_none {j : Int} : ((abM S i N).filter (rq j)).length = 0 := by
  unfold abM
  have e3 : ¬ rq j (3, (i : Int), -2147483648, -2147483648) = true := fun z => by
    unfold rq at z
    rw [Bool.and_eq_true] at z
    exact absurd (of_decide_eq_true z.1 : (3 : Int) = 0) (by decide)
  rw [List.filter_append, List.length_append, ab_none (n := 0), List.filter_cons_of_neg e3]
  rfl
theorem unM_kind {z : Rc} : ∀ m : Nat, z ∈ unM S i m → z.1 = 2
  | 0, h => by cases h
  | m + 1, h => by
    by_cases y : S 246 m = 0 ∧ S 247 m = i
    · have e1 : unM S i (m + 1) = (2, (i : Int), S 248 m, S 249 m) :: unM S i m := if_pos y
      rw [e1] at h
      rcases List.mem_cons.mp h with q | q
      · rw [q]
      · exact unM_kind m q
    · have e1 : unM S i (m + 1) = unM S i m := if_neg y
      rw [e1] at h
      exact unM_kind m h
theorem abM_kind {z : Rc} (h : z ∈ abM S i N) : z.1 ≠ 0 := by
  unfold abM at h
  rcases List.mem_append.mp h with q | q
  · rw [unM_kind N q]; decide
  · rw [List.mem_singleton.mp q]; show (3 : Int) ≠ 0; decide
/-- nothing but what is noted while a write tells what it wants -/
theorem ZA.want (h : ZA k i S) (hf : ∀ o y, (o < 222 ∨ (222 < o ∧ o < 225) ∨ (225 < o ∧ o < 233) ∨ 243 < o) → (o ≠ 100 ∨ y ≠ 41) → o ≠ 221 → S' o y = S o y) (h21 : ∀ j, S' 221 j = S 221 j ∨ (j = i ∧ S 221 j = 0 ∧ S' 221 j = 1)) : ZA k (-1) S' := by
  refine h.keep (fun o ho => funext (fun y => hf o y (by omega) (Or.inl (by omega)) (by omega))) (hf 100 19 (by omega) (Or.inr (by decide)) (by decide)) (hf 100 44 (by omega) (Or.inr (by decide)) (by decide)) (Int.le_of_eq (hf 100 37 (by omega) (Or.inr (by decide)) (by decide))) (fun j _ => ?_) (fun j _ wj => ?_)
  · unfold opA
    rcases h21 j with e | ⟨-, e2, e3⟩
    · rw [e]
    · rw [e2, e3]; decide
  · rcases wj with z | z
    · rcases h21 j with e | ⟨e, -, -⟩
      · exact Or.inl (by rw [← e]; exact z)
      · exact Or.inr e
    · omega
/-- what an abort leaves, noted or not -/
theorem ZA.undone (h : ZA k i S) (hd : WrD S) (hi : i < nS S) (oi : opA S i) (h44 : S 100 44 = N) (hX : MlX S T N (abM S i N)) (hS : ∀ o y, o ≠ 221 → o ≠ 222 → o ≠ 225 → o ≠ 226 → S' o y = T o y) (h21 : ∀ j, S' 221 j = if j = (i : Int) then 3 else S 221 j) : ZA k (-1) S' := by
  have f : ∀ o y, o ≠ 221 → o ≠ 222 → o ≠ 225 → o ≠ 226 → (o < 246 ∨ 249 < o) → (o ≠ 100 ∨ y ≠ 44) → S' o y = S o y := fun o y a b c d e g => (hS o y a b c d).trans (hX.1 o y e g)
  have fu : ∀ o, o ≠ 221 → o ≠ 222 → o ≠ 225 → o ≠ 226 → (o < 246 ∨ 249 < o) → o ≠ 100 → S' o = S o := fun o a b c d e g => funext (fun y => f o y a b c d e (Or.inl g))
  have gu : ∀ o, 246 ≤ o → o ≤ 249 → S' o = T o := fun o a b => funext (fun y => hS o y (by omega) (by omega) (by omega) (by omega))
  have e44 : S' 100 44 = T 100 44 := hS 100 44 (by decide) (by decide) (by decide) (by decide)
  have wk : ∀ j x, WrK S' j x ↔ WrK S j x := fun j x => by
    have a := WrK_X (j := j) (x := x) h44 hX
    have b : WrK S' j x ↔ WrK T j x := by
      unfold WrK wrR
      rw [gu 246 (by decide) (by decide), gu 247 (by decide) (by decide), gu 248 (by decide) (by decide), gu 249 (by decide) (by decide), e44]
    rw [b, a]
    exact ⟨fun z => z.elim id (fun z => absurd rfl (abM_kind z)), Or.inl⟩
  have wn : ∀ j, wN S' j = wN S j := fun j => by
    have a := wN_X (j := j) h44 hX
    rw [abM_none, Nat.add_zero] at a
    rw [← a]
    unfold wN
    rw [e44]
    exact un_same _ (fun r _ => by rw [gu 246 (by decide) (by decide), gu 247 (by decide) (by decide)]; exact ⟨rfl, rfl⟩)
  have f1 := fu 201 (by decide) (by decide) (by decide) (by decide) (by decide) (by decide)
  have f4 := fu 214 (by decide) (by decide) (by decide) (by decide) (by decide) (by decide)
  have f5 := fu 215 (by decide) (by decide) (by decide) (by decide) (by decide) (by decide)
  have f23 := fu 223 (by decide) (by decide) (by decide) (by decide) (by decide) (by decide)
  have f27 := fu 227 (by decide) (by decide) (by decide) (by decide) (by decide) (by decide)
  have f28 := fu 228 (by decide) (by decide) (by decide) (by decide) (by decide) (by decide)
  refine h.ends (j0 := i) hd hi oi ⟨Nat.le_refl _, Or.inl (Or.inr rfl)⟩ f1 (f 100 19 (by decide) (by decide) (by decide) (by decide) (by decide) (Or.inr (by decide))) (Int.le_of_eq (f 100 37 (by decide) (by decide) (by decide) (by decide) (by decide) (Or.inr (by decide)))) ?_ (fun j _ => ?_) (fun j _ wj => ?_) (fun t ρ _ _ hρ => ⟨ρ, rfl, Or.inl ((mIn_of2 f4 f5 t ρ).mp hρ)⟩) (fun j _ _ _ => ⟨fun t ρ _ _ hρ => by rw [f23] at hρ; exact (mIn_of2 f4 f5 t ρ).mp hρ, wk j, Nat.le_of_eq (wn j), Nat.le_of_eq (wn j).symm, fun x _ _ => by rw [f23]; exact cw_of f4 f5 _ _⟩)
  · rw [e44, hX.2.1]
    unfold wN abM
    rw [h44, List.length_append, Int.toNat_natCast, Int.toNat_natCast]
    show N + ((unM S i N).length + 1) ≤ _
    omega
  · unfold opA
    rw [h21]
    by_cases e : (j : Int) = i
    · rw [if_pos e]
      exact ⟨fun z => absurd z (by decide), fun z => absurd (by omega) z.2⟩
    · rw [if_neg e]
      exact ⟨fun z => ⟨z, by omega⟩, fun z => z.1⟩
  · have rv : rsv S' j = rsv S j := by unfold rsv; rw [f27, f28, f1]
    rcases wj with z | z
    · rw [h21] at z
      by_cases e : (j : Int) = i
      · rw [if_pos e] at z
        omega
      · rw [if_neg e] at z
        exact ⟨⟨Or.inl z, by omega⟩, rv⟩
    · omega
end
