/-! the calls, counted: values, plans -/
section
variable {S S' : IT} {k k' : Nat} {i i' : Int}
/-- what the account hangs on; calls pay for what is drafted and kept in reserve -/
theorem ZA.keep2 (h : ZA k i S) (e : ∀ o, (o = 201 ∨ o = 214 ∨ o = 215 ∨ o = 223 ∨ (246 ≤ o ∧ o ≤ 249)) → S' o = S o) (e19 : S' 100 19 = S 100 19) (e44 : S' 100 44 = S 100 44) (hp : (S' 100 37).toNat + oS (wtA S' i') (rsv S') (nS S) + k ≤ (S 100 37).toNat + oS (wtA S i) (rsv S) (nS S) + k') (ho : ∀ j, j < nS S → (opA S' j ↔ opA S j)) : ZA k' i' S' := by
  obtain ⟨Kv, E, d, b, cB, chk, hK, hE, hW, hk, hb, hN⟩ := h
  have f1 := e 201 (by omega)
  have f4 := e 214 (by omega)
  have f5 := e 215 (by omega)
  have f23 := e 223 (by omega)
  have f46 := e 246 (by omega)
  have f47 := e 247 (by omega)
  have f48 := e 248 (by omega)
  have f49 := e 249 (by omega)
  have en : nS S' = nS S := by unfold nS; rw [e19]
  have ewk : ∀ j, WrK S' j = WrK S j := fun j => funext (fun x => by
    unfold WrK wrR
    rw [f46, f47, f48, f49, e44])
  have ewn : ∀ j, wN S' j = wN S j := fun j => by
    unfold wN
    rw [e44]
    exact un_same _ (fun r _ => by rw [f46, f47]; exact ⟨rfl, rfl⟩)
  have ecap : capF S' = capF S := funext (fun x => by unfold capF; rw [f1])
  have eslk : ∀ s (Wr : Int × Int → Prop), slk S' s Wr = slk S s Wr := fun s Wr => funext (fun x => by
    unfold slk
    rw [f1, cw_of f4 f5])
  have eop : ∀ f : Nat → Nat, oS (opA S') f (nS S) = oS (opA S) f (nS S) := fun f => oS_eq (nS S) (fun j hj => ⟨ho j hj, fun _ => rfl⟩)
  refine ⟨Kv, E, d, b, cB, chk, ⟨⟨hK.1.1, fun x hx => by rw [f1]; exact hK.1.2 x hx⟩, fun t ρ t0 t1 hρ => hK.2.1 t ρ t0 t1 ((mIn_of2 f4 f5 t ρ).mp hρ), fun j hj oj => ?_⟩, by rw [ecap]; exact hE, fun j hj oj => ?_, ?_, ?_, ?_⟩
  · rw [en] at hj
    obtain ⟨a, c⟩ := hK.2.2 j hj ((ho j hj).mp oj)
    refine ⟨fun t ρ t0 t1 hρ => a t ρ t0 t1 ?_, fun x hx => c x ?_⟩
    · rw [f23] at hρ
      exact (mIn_of2 f4 f5 t ρ).mp hρ
    · rw [ewk] at hx; exact hx
  · rw [en] at hj
    rw [ewn, ewk, f23, eslk]
    exact hW j hj ((ho j hj).mp oj)
  · rw [ecap, en, eop]
    omega
  · rw [en, eop]; exact hb
  · rw [en, e44, eop, show wN S' = wN S from funext ewn]; exact hN
/-- a write is planned -/
theorem ZA.plan {j0 : Nat} (h : ZA k (-1) S) (hi : j0 < nS S) (o0 : S 221 j0 = 0) (e : ∀ o, (o = 201 ∨ o = 214 ∨ o = 215 ∨ o = 221 ∨ o = 223 ∨ (246 ≤ o ∧ o ≤ 249)) → S' o = S o) (e19 : S' 100 19 = S 100 19) (e44 : S' 100 44 = S 100 44) (eo : ∀ j : Int, j ≠ j0 → S' 227 j = S 227 j ∧ S' 228 j = S 228 j) (hp : (S' 100 37).toNat + rsv S' j0 + k ≤ (S 100 37).toNat + k') : ZA k' j0 S' := by
  have f1 := e 201 (by omega)
  have f21 := e 221 (by omega)
  have wj : wtA S' j0 j0 := Or.inr rfl
  have a1 := oS_rm (f := rsv S') wj (nS S) hi
  have a2 : oS (fun m => wtA S' j0 m ∧ m ≠ j0) (rsv S') (nS S) = oS (wtA S (-1)) (rsv S) (nS S) := oS_eq (nS S) (fun j _ => by
    constructor
    · constructor
      · rintro ⟨z, ne⟩
        rcases z with z | z
        · exact Or.inl (by rw [← f21]; exact z)
        · exact absurd (by omega) ne
      · rintro (z | z)
        · refine ⟨Or.inl (by rw [f21]; exact z), fun y => ?_⟩
          rw [y, o0] at z
          exact absurd z (by decide)
        · omega
    · rintro z
      have ne : j ≠ j0 := fun y => z.elim (fun u => by rw [y, o0] at u; exact absurd u (by decide)) (fun u => by omega)
      have q := eo j (by omega)
      unfold rsv
      rw [q.1, q.2, f1])
  refine h.keep2 (fun o ho => e o (by omega)) e19 e44 ?_ (fun j _ => by unfold opA; rw [f21])
  omega
/-- a value is drafted, or nothing is -/
theorem ZA.draft (h : ZA k (-1) S) (e : ∀ o, (o = 201 ∨ o = 214 ∨ o = 215 ∨ o = 221 ∨ o = 223 ∨ o = 227 ∨ o = 228 ∨ (246 ≤ o ∧ o ≤ 249)) → S' o = S o) (e19 : S' 100 19 = S 100 19) (e44 : S' 100 44 = S 100 44) (hp : (S' 100 37).toNat + k ≤ (S 100 37).toNat + k') : ZA k' (-1) S' := by
  have f1 := e 201 (by omega)
  have f21 := e 221 (by omega)
  have f27 := e 227 (by omega)
  have f28 := e 228 (by omega)
  have a2 : oS (wtA S' (-1)) (rsv S') (nS S) = oS (wtA S (-1)) (rsv S) (nS S) := oS_eq (nS S) (fun j _ => by
    refine ⟨by unfold wtA; rw [f21], fun _ => by unfold rsv; rw [f27, f28, f1]⟩)
  refine h.keep2 (fun o ho => e o (by omega)) e19 e44 ?_ (fun j _ => by unfold opA; rw [f21])
  omega
end
/-! one ends for a call more -/
section
variable {S T S' : IT} {k N i : Nat}
/-- an abort that is asked for -/
theorem ZA.aborted (h : ZA k (-1) S) (hd : WrD S) (hi : i < nS S) (oi : opA S i) (h44 : S 100 44 = N) (hX : MlX S T N (abM S i N)) (hS : ∀ o y, o ≠ 221 → o ≠ 225 → o ≠ 226 → S' o y = T o y) (h21 : ∀ j, S' 221 j = if j = (i : Int) then 3 else S 221 j) : ZA (k + 1) (-1) S' := by
  have f : ∀ o y, o ≠ 221 → o ≠ 225 → o ≠ 226 → (o < 246 ∨ 249 < o) → (o ≠ 100 ∨ y ≠ 44) → S' o y = S o y := fun o y a c d e g => (hS o y a c d).trans (hX.1 o y e g)
  have fu : ∀ o, o ≠ 221 → o ≠ 225 → o ≠ 226 → (o < 246 ∨ 249 < o) → o ≠ 100 → S' o = S o := fun o a c d e g => funext (fun y => f o y a c d e (Or.inl g))
  have gu : ∀ o, 246 ≤ o → o ≤ 249 → S' o = T o := fun o a b => funext (fun y => hS o y (by omega) (by omega) (by omega))
  have e44 : S' 100 44 = T 100 44 := hS 100 44 (by decide) (by decide) (by decide)
  have wk : ∀ j x, WrK S' j x ↔ WrK S j x := fun j x => by
    have a := WrK_X (j := j) (x := x) h44 hX
    have b : WrK S' j x ↔ WrK T j x := by
      unfold WrK wrR
      rw [gu 246 (by decide) (by decide), gu 247 (by decide) (by decide), gu 248 (by decide) (by decide), gu 249 (by decide) (by decide), e44]
    rw [b, a]
    exact ⟨fun z => z.elim id (fun z => absurd rfl (abM_kind z)), Or.inl⟩
  have wn : ∀ j, wN S' j = wN S j := fun j => by
    have a := wN_X (j := j) h44 hX
    rw [abM_none, Nat.add_zero] at a
    rw [← a]
    unfold wN
    rw [e44]
    exact un_same _ (fun r _ => by rw [gu 246 (by decide) (by decide), gu 247 (by decide) (by decide)]; exact ⟨rfl, rfl⟩)
  have f1 := fu 201 (by decide) (by decide) (by decide) (by decide) (by decide)
  have f4 := fu 214 (by decide) (by decide) (by decide) (by decide) (by decide)
  have f5 := fu 215 (by decide) (by decide) (by decide) (by decide) (by decide)
  have f23 := fu 223 (by decide) (by decide) (by decide) (by decide) (by decide)
  have f27 := fu 227 (by decide) (by decide) (by decide) (by decide) (by decide)
  have f28 := fu 228 (by decide) (by decide) (by decide) (by decide) (by decide)
  refine h.ends (j0 := i) hd hi oi ⟨Nat.le_succ _, Or.inr (Nat.le_refl _)⟩ f1 (f 100 19 (by decide) (by decide) (by decide) (by decide) (Or.inr (by decide))) (Int.le_of_eq (f 100 37 (by decide) (by decide) (by decide) (by decide) (Or.inr (by decide)))) ?_ (fun j _ => ?_) (fun j _ wj => ?_) (fun t ρ _ _ hρ => ⟨ρ, rfl, Or.inl ((mIn_of2 f4 f5 t ρ).mp hρ)⟩) (fun j _ _ _ => ⟨fun t ρ _ _ hρ => by rw [f23] at hρ; exact (mIn_of2 f4 f5 t ρ).mp hρ, wk j, Nat.le_of_eq (wn j), Nat.le_of_eq (wn j).symm, fun x _ _ => by rw [f23]; exact cw_of f4 f5 _ _⟩)
  · rw [e44, hX.2.1]
    unfold wN abM
    rw [h44, List.length_append, Int.toNat_natCast, Int.toNat_natCast]
    show N + ((unM S i N).length + 1) ≤ _
    omega
  · unfold opA
    rw [h21]
    by_cases e : (j : Int) = i
    · rw [if_pos e]
      exact ⟨fun z => absurd z (by decide), fun z => absurd (by omega) z.2⟩
    · rw [if_neg e]
      exact ⟨fun z => ⟨z, by omega⟩, fun z => z.1⟩
  · have rv : rsv S' j = rsv S j := by unfold rsv; rw [f27, f28, f1]
    rcases wj with z | z
    · rw [h21] at z
      by_cases e : (j : Int) = i
      · rw [if_pos e] at z
        omega
      · rw [if_neg e] at z
        exact ⟨⟨Or.inl z, by omega⟩, rv⟩
    · omega
end
