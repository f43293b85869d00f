/-! the relation of the engines: what doesn't matter may change; reads more -/
section
variable {I S I' S' : IT} {n N g : Nat} {lv mv : Nat → Nat} {q q' : Int}
/-- the class's numbers that the relation is about; the reference's -/
def erC (o : Nat) : Prop := erI o ∨ (2000 ≤ o ∧ o < 10000) ∨ (12000 ≤ o ∧ o < 12020)
def erM (o : Nat) (k : Int) : Prop := (200 < o ∧ o < 219) ∨ (220 ≤ o ∧ o ≤ 236) ∨ (245 < o ∧ o < 250) ∨ (o = 100 ∧ (k = 0 ∨ k = 8 ∨ k = 16 ∨ k = 19 ∨ k = 44 ∨ k = 45))
theorem ER.same (h : ER I S n N g lv mv q) (hV : ∀ j, j < n → lv j < 15 ∧ mv j < 15) (hg : g < 10) (hI : ∀ o, erC o → I' o = I o) (hS : ∀ o k, erM o k → S' o k = S o k) (hq : q ≤ q' ∧ q' ≤ 2048) : ER I' S' n N g lv mv q' := by
  have n60 := h.cnt.2.2.1
  have eo : ∀ o, (200 < o ∧ o < 219) ∨ (220 ≤ o ∧ o ≤ 236) ∨ (245 < o ∧ o < 250) → S' o = S o := fun o ho => funext (fun k => hS o k (by unfold erM; omega))
  have f1Z : ∀ k, (k = 0 ∨ k = 8 ∨ k = 16 ∨ k = 19 ∨ k = 44 ∨ k = 45) → S' 100 k = S 100 k := fun k hk => hS 100 k (Or.inr (Or.inr (Or.inr ⟨rfl, hk⟩)))
  have e221 := eo 221 (by omega)
  have e225 := eo 225 (by omega)
  have io : ∀ j, j < n → ∀ aZ, aZ < 128 → I' (tX j + aZ) = I (tX j + aZ) := fun j hj aZ ha => hI _ (Or.inr (Or.inl (by unfold tX; omega)))
  have io0 : ∀ j, j < n → I' (tX j) = I (tX j) := fun j hj => io j hj 0 (by decide)
  have rdZ : ∀ j t y, mRead S' j t y ↔ mRead S j t y := fun j t y => by unfold mRead; rw [eo 233 (by omega), eo 234 (by omega), eo 235 (by omega), eo 236 (by omega)]
  refine h.keep (fun j => by unfold opS; rw [e221]) (fun j _ => by rw [e221]) (fun o ho => hI o (Or.inl ho)) (hI _ (Or.inr (Or.inr (by omega)))) (fun j hj => ?_) (fun o ho => eo o (by omega)) (fun k hk => f1Z k hk) (h.mb.of (f1Z _ (by simp)) (f1Z _ (by simp)) (f1Z _ (by simp)) (fun k => by rw [eo 201 (by omega)]) (fun k => by rw [eo 202 (by omega)]) (fun k => by rw [eo 206 (by omega)]) (fun k => by rw [eo 211 (by omega)]) (fun k => by rw [eo 214 (by omega)]; exact h.mb.row k) (fun k => by rw [eo 223 (by omega)]) (fun k => by rw [eo 236 (by omega)]; exact h.mb.who k)) (fun j hj => ?_) (by rw [e221, e225]; exact h.ph) (h.ac.cut (fun y => Or.inl (by rw [e225]))) ?_ (fun j hj h1 => ?_)
  · have := (hV j hj).2
    exact ⟨io j hj 33 (by decide), by rw [io0 j hj], by rw [Nat.add_assoc]; exact io j hj _ (by omega)⟩
  · obtain ⟨aZ, rZ⟩ := h.tx j hj
    have l15 := (hV j hj).1
    refine ⟨?_, (rZ.ofI (by rw [io0 j hj]) (by rw [io0 j hj]) (by rw [Nat.add_assoc]; exact io j hj _ (by omega)) (by rw [Nat.add_assoc]; exact io j hj _ (by omega))).ofS (fun t y _ _ => ⟨rdZ _ t y, by rw [eo 236 (by omega)]⟩)⟩
    rw [io0 j hj, eo 220 (by omega), eo 224 (by omega), e221, eo 222 (by omega), e225]
    exact aZ
  · rw [eo 233 (by omega), eo 234 (by omega)]
    exact ⟨fun j hj => by have := h.rd.1 j hj; omega, h.rd.2.1, hq.2⟩
  · rw [e221] at h1
    obtain ⟨pZ, wZ⟩ := h.pd j hj h1
    refine ⟨pZ.of ⟨fun k aZ b => by rw [io0 j hj], io j hj 13 (by decide)⟩ (fun o aZ b => eo o (by omega)) (eo 201 (by omega)) (f1Z 0 (by simp)), fun t y hy => (rdZ _ t y).mpr (wZ t y ?_)⟩
    exact (YS_of (S := S) (fun o aZ b => eo o (by omega)) (eo 201 (by omega)) (eo 206 (by omega)) t y).mp hy
/-- a transaction reads more -/
theorem ER.reads {i l' : Nat} {W W' : Int → Prop} {Y Y' : Int → Int → Prop} {c c' : Int} (h : ER I S n N g lv mv q) (hV : ∀ j, j < n → lv j < 15 ∧ mv j < 15) (hg : g < 10) (hi : i < n) (h0 : S 221 i = 0) (hI : ∀ o, ¬ nTx i o → I' o = I o) (hd : RdD I I' i (lv i) l' (mv i) W Y c) (hm : MrD S S' i W' Y' c') (hc : c' ≤ 4)
    (hS : ∀ (o : Nat) (k : Int), (o < 233 ∨ 236 < o) → S' o k = S o k) (h236 : ∀ k, S' 236 k = 1 ∨ S' 236 k = S 236 k) (hW : ∀ t, 0 ≤ t → t < 6 → (W t ↔ W' t)) (hY : ∀ t y, 0 ≤ t → t < 6 → (Y t y ↔ Y' t y)) (hy : ∀ t y, Y' t y → 0 ≤ t ∧ t < 6) (hq : q + 4 ≤ 2048) : ER I' S' n N g (fun j => if j = i then l' else lv j) mv (q + 4) := by
  have n60 := h.cnt.2.2.1
  have fo : ∀ o, (o < 233 ∨ 236 < o) → S' o = S o := fun o a => funext (fun k => hS o k a)
  have e221 := fo 221 (by decide)
  have e225 := fo 225 (by decide)
  have oth : ∀ j, j < n → j ≠ i → ∀ a, a < 128 → I' (tX j + a) = I (tX j + a) := fun j hj hji a ha => hI _ (by unfold nTx tX; omega)
  have oth0 : ∀ j, j < n → j ≠ i → I' (tX j) = I (tX j) := fun j hj hji => oth j hj hji 0 (by decide)
  have rdo : ∀ j : Nat, j < n → j ≠ i → ∀ t y, 0 ≤ t → t < 6 → (mRead S' j t y ↔ mRead S j t y) ∧ S' 236 (6 * (j : Int) + t) = S 236 (6 * (j : Int) + t) := fun j hj hji t y t0 t1 => hm.1.oth (by omega) (by have := h.rd.1 j hj; have := h.rd.2.2; omega) ⟨t0, t1⟩
  refine h.keep (fun j => by unfold opS; rw [e221]) (fun j _ => by rw [e221]) (fun o ho => hI o (by unfold erI at ho; unfold nTx tX; omega)) (hI _ (by unfold nTx tX; omega)) (fun j hj => ?_) (fun o ho => fo o (by omega)) (fun k hk => hS 100 k (by omega)) (h.mb.fra hS h236) (fun j hj => ?_) (by rw [e221, e225]; exact h.ph) (h.ac.cut (fun y => Or.inl (by rw [e225]))) ⟨fun j hj => ?_, ?_, hq⟩ (fun j hj h1 => ?_)
  · by_cases eZ : j = i
    · subst eZ; exact ⟨hd.2.2.1.2.1, hd.1 17 (by decide) (by decide), hd.2.2.1.2.2⟩
    · have := (hV j hj).2
      exact ⟨oth j hj eZ 33 (by decide), by rw [oth0 j hj eZ], by rw [Nat.add_assoc]; exact oth j hj eZ _ (by omega)⟩
  · by_cases eZ : j = i
    · subst eZ
      have t := (h.tx j hj).1
      rw [if_pos rfl]
      refine ⟨?_, (h.tx j hj).2.step hd hm hW hY⟩
      rw [hd.1 0 (by decide) (by decide), hd.1 1 (by decide) (by decide), hd.1 2 (by decide) (by decide), hd.1 4 (by decide) (by decide), hd.1 5 (by decide) (by decide), hd.1 6 (by decide) (by decide), fo 220 (by decide), fo 224 (by decide), e221, fo 222 (by decide), e225]
      exact t
    · obtain ⟨t, rZ⟩ := h.tx j hj
      rw [if_neg eZ]
      have := (hV j hj).1
      refine ⟨?_, (rZ.ofI (by rw [oth0 j hj eZ]) (by rw [oth0 j hj eZ]) (by rw [Nat.add_assoc]; exact oth j hj eZ _ (by omega)) (by rw [Nat.add_assoc]; exact oth j hj eZ _ (by omega))).ofS (rdo j hj eZ)⟩
      rw [oth0 j hj eZ, fo 220 (by decide), fo 224 (by decide), e221, fo 222 (by decide), e225]
      exact t
  · by_cases eZ : j = i
    · subst eZ
      have := hm.2.2.2.1
      have := h.rd.1 j hj
      omega
    · rw [hm.1.1 j (by omega)]
      have := h.rd.1 j hj
      omega
  · exact hm.2.2.2.2.1 h.rd.2.1 hy
  · rw [e221] at h1
    have eZ : j ≠ i := fun z => by rw [z] at h1; omega
    obtain ⟨pZ, wZ⟩ := h.pd j hj h1
    refine ⟨pZ.of ⟨fun k a b => by rw [oth0 j hj eZ], oth j hj eZ 13 (by decide)⟩ (fun o a b => fo o (by omega)) (fo 201 (by decide)) (hS 100 0 (by omega)), fun t y hy => ?_⟩
    have hy' := (YS_of (S := S) (fun o a b => fo o (by omega)) (fo 201 (by decide)) (fo 206 (by decide)) t y).mp hy
    have s6Z := h.sch.2.1
    have rg := YS_rg ⟨pZ.2.1.1, by have := pZ.2.1.2; omega⟩ h.sch.2.2.2.2.2.2.2.2.2 hy'
    exact (rdo j hj eZ t y rg.1 rg.2).1.mpr (wZ t y hy')
end
