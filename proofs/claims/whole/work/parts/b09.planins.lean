/-! an insert is planned -/
section
variable {K : KT} {P : PT} {J I I' S S' : IT} {n N g lq i : Nat} {lv mv : Nat → Nat} {q t y : Int}
theorem ER.planI (h : ER I S n N g lv mv q) (hl : ∀ j, j < n → lv j < 15 ∧ mv j < 15) (hg : g < 10) (hi : i < n) (h0 : S 221 i = 0) (hI : ∀ o k, ¬ (o = tX i ∧ 7 ≤ k ∧ k ≤ 11) → o ≠ tX i + 13 → o ≠ 1000 → I' o k = I o k) (hS : ∀ o k, ¬ (227 ≤ o ∧ o ≤ 231 ∧ k = (i : Int)) → ¬ (o = 232 ∧ 4 * (i : Int) ≤ k ∧ k < 4 * i + 4) → ¬ (o = 100 ∧ k = 37) → S' o k = S o k) : ER I' S' n N g lv mv q := by
  have n60 := h.cnt.2.2.1
  have x0 : 2000 ≤ tX i ∧ tX i + 128 ≤ 10000 := by unfold tX; omega
  have eo : ∀ o, (o < 227 ∨ 232 < o) → o ≠ 100 → S' o = S o := fun o ho h1 => funext (fun k => hS o k (fun z => by omega) (fun z => by omega) (fun z => h1 z.1))
  have e1 : ∀ k, k ≠ 37 → S' 100 k = S 100 k := fun k hk => hS 100 k (fun z => by omega) (fun z => by omega) (fun z => hk z.2)
  have io : ∀ o, o ≠ tX i → o ≠ tX i + 13 → o ≠ 1000 → I' o = I o := fun o ho h1 h2 => funext (fun k => hI o k (fun z => ho z.1) h1 h2)
  have ix : ∀ k, ¬ (7 ≤ k ∧ k ≤ 11) → ∀ j, j < n → I' (tX j) k = I (tX j) k := fun k hk j hj => hI _ k (fun z => hk z.2) (by unfold tX; omega) (by unfold tX; omega)
  have e221 := eo 221 (by decide) (by decide)
  have e225 := eo 225 (by decide) (by decide)
  have rd : ∀ j t y, mRead S' j t y ↔ mRead S j t y := fun j t y => by unfold mRead; rw [eo 233 (by decide) (by decide), eo 234 (by decide) (by decide), eo 235 (by decide) (by decide), eo 236 (by decide) (by decide)]
  refine h.keep (fun j => by unfold opS; rw [e221]) (fun j _ => by rw [e221]) (fun o ho => io o (by unfold erI at ho; omega) (by unfold erI at ho; omega) (by unfold erI at ho; omega)) (io _ (by omega) (by omega) (by omega)) (fun j hj => ?_) (fun o ho => eo o (by omega) (by omega)) (fun k hk => e1 k (by omega)) (h.mb.of (e1 0 (by decide)) (e1 8 (by decide)) (e1 19 (by decide)) (fun k => by rw [eo 201 (by decide) (by decide)]) (fun k => by rw [eo 202 (by decide) (by decide)]) (fun k => by rw [eo 206 (by decide) (by decide)]) (fun k => by rw [eo 211 (by decide) (by decide)]) (fun k => by rw [eo 214 (by decide) (by decide)]; exact h.mb.row k) (fun k => by rw [eo 223 (by decide) (by decide)]) (fun k => by rw [eo 236 (by decide) (by decide)]; exact h.mb.who k)) (fun j hj => ?_) (by rw [e221, e225]; exact h.ph) (h.ac.cut (fun y => Or.inl (by rw [e225]))) (by rw [eo 233 (by decide) (by decide), eo 234 (by decide) (by decide)]; exact h.rd) (fun j hj h1 => ?_)
  · have := (hl j hj).2
    exact ⟨io _ (by unfold tX; omega) (by unfold tX; omega) (by unfold tX; omega), ix 17 (by omega) j hj, io _ (by unfold tX; omega) (by unfold tX; omega) (by unfold tX; omega)⟩
  · obtain ⟨a, r⟩ := h.tx j hj
    have l15 := (hl j hj).1
    refine ⟨?_, (r.ofI (ix 13 (by omega) j hj) (ix 14 (by omega) j hj) (io _ (by unfold tX; omega) (by unfold tX; omega) (by unfold tX; omega)) (io _ (by unfold tX; omega) (by unfold tX; omega) (by unfold tX; omega))).ofS (fun t y _ _ => ⟨rd _ t y, by rw [eo 236 (by decide) (by decide)]⟩)⟩
    rw [ix 0 (by omega) j hj, ix 1 (by omega) j hj, ix 2 (by omega) j hj, ix 4 (by omega) j hj, ix 5 (by omega) j hj, ix 6 (by omega) j hj, eo 220 (by decide) (by decide), eo 224 (by decide) (by decide), e221, eo 222 (by decide) (by decide), e225]
    exact a
  · rw [e221] at h1
    have ne : j ≠ i := fun z => by rw [z] at h1; omega
    obtain ⟨p, w⟩ := h.pd j hj h1
    have ej : ∀ o, 227 ≤ o → o ≤ 231 → S' o j = S o j := fun o a b => hS o j (fun z => by omega) (fun z => by omega) (fun z => by omega)
    have e32 : ∀ c : Int, 0 ≤ c → c < 4 → S' 232 (4 * (j : Int) + c) = S 232 (4 * (j : Int) + c) := fun c c0 c1 => hS 232 _ (fun z => by omega) (fun z => by omega) (fun z => by omega)
    have e320 : S' 232 (4 * (j : Int)) = S 232 (4 * (j : Int)) := by have := e32 0 (by decide) (by decide); rwa [Int.add_zero] at this
    have e201 := eo 201 (by decide) (by decide)
    have e206 := eo 206 (by decide) (by decide)
    have my : ∀ t m t' y', m ≤ 3 → (mInY S' j t m t' y' ↔ mInY S j t m t' y') := fun t m t' y' hm => by
      unfold mInY
      rw [e320, e206]
      refine or_congr Iff.rfl ⟨fun ⟨c, c0, c1, c2⟩ => ⟨c, c0, c1, ?_⟩, fun ⟨c, c0, c1, c2⟩ => ⟨c, c0, c1, ?_⟩⟩
      · rw [e32 c (by omega) (by omega)] at c2; exact c2
      · rw [e32 c (by omega) (by omega)]; exact c2
    have y' : ∀ t y, YS S' j t y ↔ YS S j t y := fun t y => by
      have col := h.mb.col (S 228 j)
      unfold YS
      rw [ej 227 (by decide) (by decide), ej 228 (by decide) (by decide), ej 229 (by decide) (by decide), ej 230 (by decide) (by decide), ej 231 (by decide) (by decide), e201, e206, my _ _ _ _ (by omega)]
    refine ⟨?_, fun t y hy => (rd _ t y).mpr (w t y ((y' t y).mp hy))⟩
    have tj : I' (tX j) = I (tX j) := io _ (by unfold tX; omega) (by unfold tX; omega) (by unfold tX; omega)
    have t13 : I' (tX j + 13) = I (tX j + 13) := io _ (by unfold tX; omega) (by unfold tX; omega) (by unfold tX; omega)
    obtain ⟨p1, p2, p3, p4, p5⟩ := p
    unfold PdE InH UpH at *
    rw [tj, t13, ej 227 (by decide) (by decide), ej 228 (by decide) (by decide), ej 229 (by decide) (by decide), ej 230 (by decide) (by decide), ej 231 (by decide) (by decide), e320, e201, e1 0 (by decide)]
    refine ⟨p1, p2, fun z => ?_, p4, p5⟩
    obtain ⟨a, b, c⟩ := p3 z
    exact ⟨a, fun k k0 k1 => by rw [e32 k k0 k1]; exact b k k0 k1, fun k k0 k1 => by rw [e32 k k0 k1]; exact c k k0 k1⟩
end
