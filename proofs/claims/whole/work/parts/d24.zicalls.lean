/-! the calls and the bounds -/
section
variable {I S S' : IT} {n N g k k' i : Nat} {lv mv : Nat → Nat} {q x : Int}
/-- a write is planned -/
theorem ZI.plan (h : ZI k (-1) S) (hi : i < nS S) (o0 : S 221 i = 0) (h40 : S 233 i ≤ 2040) (hS : ∀ o y, ¬ (227 ≤ o ∧ o ≤ 232) → ¬ (o = 100 ∧ y = 37) → S' o y = S o y) (eo : ∀ j : Int, j ≠ i → S' 227 j = S 227 j ∧ S' 228 j = S 228 j) (hp : (S' 100 37).toNat + rsv S' i ≤ (S 100 37).toNat + 1) : ZB S' (k + 1) i S' := by
  have fu : ∀ o, ¬ (227 ≤ o ∧ o ≤ 232) → o ≠ 100 → S' o = S o := fun o a b => funext (fun y => hS o y a (fun z => b z.1))
  have f1 : ∀ y, y ≠ 37 → S' 100 y = S 100 y := fun y a => hS 100 y (by decide) (fun z => a z.2)
  refine ⟨h.frm (h.1.plan hi o0 (fun o ho => fu o (by omega) (by omega)) (f1 19 (by decide)) (f1 44 (by decide)) eo (by omega)) (fun o a b => fu o (by omega) (by omega)) ⟨f1 0 (by decide), f1 19 (by decide), f1 44 (by decide), f1 45 (by decide)⟩ ⟨fu 225 (by decide) (by decide), fu 233 (by decide) (by decide), fu 236 (by decide) (by decide)⟩ (fun j _ z => by rw [fu 221 (by decide) (by decide)] at z; exact z), fun _ _ _ => rfl, fun _ => ?_, St4.rf⟩
  rw [fu 233 (by decide) (by decide)]
  exact h40
/-- nothing that the bounds hang on changes but what is drafted -/
theorem ZI.same (h : ZI k (-1) S) (e : ∀ o, (o = 201 ∨ o = 214 ∨ o = 215 ∨ o = 221 ∨ o = 223 ∨ o = 225 ∨ o = 227 ∨ o = 228 ∨ o = 233 ∨ o = 236 ∨ (246 ≤ o ∧ o ≤ 249)) → S' o = S o) (e1 : ∀ y, (y = 0 ∨ y = 19 ∨ y = 44 ∨ y = 45) → S' 100 y = S 100 y) (hp : (S' 100 37).toNat + k ≤ (S 100 37).toNat + k') : ZI k' (-1) S' :=
  h.frm (h.1.draft (fun o ho => e o (by omega)) (e1 19 (by omega)) (e1 44 (by omega)) hp) (fun o a b => e o (by omega)) ⟨e1 0 (by omega), e1 19 (by omega), e1 44 (by omega), e1 45 (by omega)⟩ ⟨e 225 (by omega), e 233 (by omega), e 236 (by omega)⟩ (fun j _ z => by rw [e 221 (by omega)] at z; exact z)
/-- an abort -/
theorem ZI.aborted (h : ZI k (-1) S) (hE : ER I S n N g lv mv q) (hi : i < n) (o0 : S 221 i < 2) : ZI (k + 1) (-1) (mAborts S i) ∧ (∀ o y, ¬ tyX o y → mAborts S i o y = S o y) := by
  have s44 : S 100 44 = N := hE.cnt.2.1
  have hT := ab_tyw (W := S) (i := i) s44
  have zA : ZA (k + 1) (-1) (mAborts S i) := by
    obtain ⟨hd, en⟩ := hE.wrd
    obtain ⟨T, hX, eA, -⟩ := mAborts_X (S := S) (i := (i : Int)) s44
    rw [eA]
    refine h.1.aborted hd (by rw [en]; exact hi) o0 s44 hX (fun o y a b c => mends_o o y a b c) (fun j => ?_)
    unfold mends
    rw [up2_o _ _ _ _ (by decide), up2_o _ _ _ _ (by decide)]
    by_cases e : j = (i : Int)
    · rw [if_pos e, e, up2_eq]
    · rw [if_neg e, up2_k _ _ _ _ e]
      exact hX.1 221 j (Or.inl (by decide)) (Or.inl (by decide))
  exact ⟨h.tyw zA hE hi o0 WaS.rf hT, hT.fr WaS.rf⟩
/-- the records fit when one is undone -/
theorem ZI.room (h : ZI k (-1) S) (hE : ER I S n N g lv mv q) (hi : i < n) (o0 : S 221 i < 2) (k5 : k < 512) : N + (unM S i N).length + 1 < 16320 := by
  obtain ⟨hd, en⟩ := hE.wrd
  have s44 : S 100 44 = N := hE.cnt.2.1
  have zA := (h.aborted hE hi o0).1.1
  obtain ⟨T, hX, eA, -⟩ := mAborts_X (S := S) (i := (i : Int)) s44
  have wd : WrD (mAborts S i) := by
    have f21 : ∀ j : Nat, opA (mAborts S i) j → opA S j := fun j oj => by
      rw [eA] at oj
      unfold opA mends at oj
      rw [up2_o _ _ _ _ (by decide), up2_o _ _ _ _ (by decide)] at oj
      by_cases e : (j : Int) = i
      · rw [e, up2_eq] at oj
        exact absurd oj (by decide)
      · rw [up2_k _ _ _ _ e, hX.1 221 j (Or.inl (by decide)) (Or.inl (by decide))] at oj
        exact oj
    have wk : ∀ j z, WrK (mAborts S i) j z → WrK S j z := fun j z hz => by
      have a := (WrK_X (j := j) (x := z) s44 hX).mp (by
        rw [eA] at hz
        unfold WrK wrR at *
        obtain ⟨r, r0, r1, r2, r3, r4, r5⟩ := hz
        rw [mends_o 100 44 (by decide) (by decide) (by decide)] at r1
        rw [mends_o 246 r (by decide) (by decide) (by decide)] at r2
        rw [mends_o 247 r (by decide) (by decide) (by decide)] at r3
        rw [mends_o 248 r (by decide) (by decide) (by decide)] at r4
        rw [mends_o 249 r (by decide) (by decide) (by decide)] at r5
        exact ⟨r, r0, r1, r2, r3, r4, r5⟩)
      exact a.elim id (fun y => absurd rfl (abM_kind y))
    have e19 : nS (mAborts S i) = nS S := by
      unfold nS
      rw [(h.aborted hE hi o0).2 100 19 (by unfold tyX; omega)]
    intro j l z hj hl oj ol a b
    rw [e19] at hj hl
    exact hd j l z hj hl (f21 j oj) (f21 l ol) (wk j z a) (wk l z b)
  have := (zA.num wd (by omega)).1
  rw [eA, mends_o 100 44 (by decide) (by decide) (by decide), hX.2.1] at this
  unfold abM at this
  rw [List.length_append] at this
  have e1 : ([(3, (i : Int), -2147483648, -2147483648)] : List Rc).length = 1 := rfl
  rw [e1] at this
  omega
theorem ZI.n16 (h : ZI k (-1) S) (hE : ER I S n N g lv mv q) (k5 : k ≤ 512) : N < 16320 := by
  have := (h.1.num hE.wrd.1 k5).1
  rw [hE.cnt.2.1] at this
  omega
/-- a commit -/
theorem ZI.committed (h : ZI k (-1) S) (hE : ER I S n N g lv mv q) (hi : i < n) (o0 : S 221 i < 2) : ZI (k + 1) (-1) (mCmE S i) := by
  have zA := h.1.committed hE hi o0
  obtain ⟨-, h1, h2, h3, h4, h5, h6⟩ := h
  obtain ⟨fr, f21, f25, -, f44, f45, fR, fN, -, -⟩ := com_at hE hi o0
  have s44 : S 100 44 = N := hE.cnt.2.1
  generalize mCmE S i = T at *
  have t0 : T 100 0 = S 100 0 := fr 100 0 (by decide) (by decide) (by decide) (by decide) (by decide) (by decide) (by decide) (Or.inl (by decide)) (Or.inr (by decide))
  have t19 : T 100 19 = S 100 19 := fr 100 19 (by decide) (by decide) (by decide) (by decide) (by decide) (by decide) (by decide) (Or.inl (by decide)) (Or.inr (by decide))
  have t33 : T 233 = S 233 := funext (fun y => fr 233 y (by decide) (by decide) (by decide) (by decide) (by decide) (by decide) (by decide) (Or.inl (by decide)) (Or.inl (by decide)))
  have t36 : T 236 = S 236 := funext (fun y => fr 236 y (by decide) (by decide) (by decide) (by decide) (by decide) (by decide) (by decide) (Or.inl (by decide)) (Or.inl (by decide)))
  refine ⟨zA, fun r r0 r1 r2 => ?_, fun y y0 y1 => ?_, h3.of t19 t33 t36, fun r r0 r1 r2 => ?_, fun r r0 r1 r2 => ?_, fun j hj h3 hx => ?_⟩
  · have ne : r ≠ (N : Int) := fun e => by rw [e, fN.1] at r2; exact absurd r2 (by decide)
    obtain ⟨a, -, c, -⟩ := fR r ne
    rw [f44] at r1
    rw [t0, c]
    exact h1 r r0 (by rw [s44]; omega) (by rw [← a]; exact r2)
  · rw [f25]
    by_cases e : y = (i : Int)
    · rw [if_pos e]; exact Or.inl rfl
    · rw [if_neg e]; exact h2 y y0 y1
  · rw [f45, s44]
    rw [f44] at r1
    omega
  · rw [f45, s44] at r0
    rw [f44] at r1
    have e : (r : Int) = N := by omega
    rw [e, fN.1] at r2
    exact absurd r2 (by decide)
  · rw [t19] at hj
    rw [f21] at h3
    by_cases e : (j : Int) = i
    · rw [if_pos e] at h3
      exact absurd h3 (by decide)
    · rw [if_neg e] at h3
      obtain ⟨r, r0, r1, r2, r3⟩ := hx
      have ne : r ≠ (N : Int) := fun e => by rw [e, fN.1] at r2; exact absurd r2 (by decide)
      obtain ⟨a, b, -, -⟩ := fR r ne
      rw [f44] at r1
      obtain ⟨p, p0, p1, p2, p3⟩ := h6 j hj h3 ⟨r, r0, by rw [s44]; omega, by rw [← a]; exact r2, by rw [← b]; exact r3⟩
      rw [s44] at p1
      obtain ⟨a', b', -, -⟩ := fR p (by omega)
      exact ⟨p, p0, by rw [f44]; omega, a'.trans p2, b'.trans p3⟩
/-- one begins -/
theorem ZI.began (h : ZI k (-1) S) (hE : ER I S n N g lv mv q) (hn : n < 60) (hf : mTakenN S ≠ 4) : ZI (k + 1) (-1) (mBegin S x) := by
  have zA := h.1.began (x := x) hE hn hf
  obtain ⟨-, h1, h2, h3, h4, h5, h6⟩ := h
  obtain ⟨f, -, -, fo, f1, t19, tj, ⟨o21, -, -, o25⟩, -, -, -⟩ := begin_at (x := x) hE hf
  have s19 : S 100 19 = n := hE.cnt.1
  generalize mBegin S x = T at *
  have g6 := fo 246 (by omega) (by decide)
  have g7 := fo 247 (by omega) (by decide)
  have g8 := fo 248 (by omega) (by decide)
  refine ⟨zA, fun r r0 r1 r2 => ?_, fun y y0 y1 => ?_, ⟨fun j j0 => ?_, fun j j0 j1 => ?_⟩, fun r r0 r1 r2 => ?_, ab_of h5 (fun o a b => fo o (by omega) (by omega)) (f1 44 (by decide)) (f1 45 (by decide)), fun j hj h3' hx => ?_⟩
  · rw [f1 0 (by decide), g8]
    rw [f1 44 (by decide)] at r1
    rw [g6] at r2
    exact h1 r r0 r1 r2
  · by_cases e : y = (n : Int)
    · rw [e, o25]; exact Or.inl rfl
    · rw [tj 225 y (by decide) (by decide) e]; exact h2 y y0 y1
  · rw [fo 233 (by omega) (by decide)]
    rw [t19] at j0
    exact h3.1 j (by rw [s19]; omega)
  · rw [fo 236 (by omega) (by decide)]
    rw [t19] at j0
    exact h3.2 j (by rw [s19]; omega) j1
  · rw [f1 45 (by decide)]
    rw [f1 44 (by decide)] at r1
    rw [g6] at r2
    exact h4 r r0 r1 r2
  · rw [f1 44 (by decide), g6, g7] at *
    rw [t19] at hj
    by_cases e : j = n
    · rw [e, o21] at h3'
      exact absurd h3' (by decide)
    · rw [tj 221 j (by decide) (by decide) (by omega)] at h3'
      exact h6 j (by rw [s19]; omega) h3' hx
end
