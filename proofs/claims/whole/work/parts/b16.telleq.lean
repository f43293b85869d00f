/-! what is told is the same -/
section
variable {I S : IT} {n N g i : Nat} {lv mv : Nat → Nat} {q t y c : Int}
theorem com_spec {d e : Nat} (h : d ≠ e) : ∀ (l k : Nat) (T : IT), (∀ o, o ≠ e → lgCom d e l k T o = T o) ∧ ∀ w, (lgCom d e l k T e w ≠ 0 ↔ T e w ≠ 0 ∨ ∃ r : Nat, k ≤ r ∧ r < k + l ∧ T d ((r : Int) * 8) = 1 ∧ T d ((r : Int) * 8 + 1) = w) := by
  intro l
  induction l with
  | zero =>
    intro k T
    exact ⟨fun _ _ => rfl, fun w => ⟨Or.inl, fun z => z.elim id (fun ⟨r, r0, r1, _⟩ => by omega)⟩⟩
  | succ l ih =>
    intro k T
    by_cases a : T d ((k : Int) * 8) = 1
    · have e1 : lgCom d e (l + 1) k T = lgCom d e l (k + 1) (up2 T e (T d ((k : Int) * 8 + 1)) 1) := if_pos a
      obtain ⟨x, z⟩ := ih (k + 1) (up2 T e (T d ((k : Int) * 8 + 1)) 1)
      have ud : ∀ o, o ≠ e → up2 T e (T d ((k : Int) * 8 + 1)) 1 o = T o := fun o ho => funext (fun v => up2_o _ _ _ _ ho)
      rw [e1]
      refine ⟨fun o ho => (x o ho).trans (ud o ho), fun w => ?_⟩
      rw [z w, ud d h]
      by_cases b : w = T d ((k : Int) * 8 + 1)
      · rw [b, up2_eq]
        exact ⟨fun _ => Or.inr ⟨k, Nat.le_refl _, by omega, a, rfl⟩, fun _ => Or.inl (by decide)⟩
      · rw [up2_k _ _ _ _ b]
        constructor
        · rintro (v | ⟨r, r0, r1, r2⟩)
          · exact Or.inl v
          · exact Or.inr ⟨r, by omega, by omega, r2⟩
        · rintro (v | ⟨r, r0, r1, r2, r3⟩)
          · exact Or.inl v
          · refine Or.inr ⟨r, Classical.byContradiction (fun s => ?_), by omega, r2, r3⟩
            have : r = k := by omega
            rw [this] at r3
            exact b r3.symm
    · have e1 : lgCom d e (l + 1) k T = lgCom d e l (k + 1) T := if_neg a
      obtain ⟨x, z⟩ := ih (k + 1) T
      rw [e1]
      refine ⟨x, fun w => ?_⟩
      rw [z w]
      constructor
      · rintro (v | ⟨r, r0, r1, r2⟩)
        · exact Or.inl v
        · exact Or.inr ⟨r, by omega, by omega, r2⟩
      · rintro (v | ⟨r, r0, r1, r2, r3⟩)
        · exact Or.inl v
        · refine Or.inr ⟨r, Classical.byContradiction (fun s => ?_), by omega, r2, r3⟩
          have : r = k := by omega
          rw [this] at r2
          exact a r2
def lgM (T : IT) (d e : Nat) (t y : Int) (k : Nat) : Prop := T d ((k : Int) * 8) = 0 ∧ T d ((k : Int) * 8 + 2) = t ∧ T d ((k : Int) * 8 + 3) = y ∧ T e (T d ((k : Int) * 8 + 1)) ≠ 0
theorem lst_spec {T : IT} {d e : Nat} : ∀ k : Nat, (lgLst T d e t y c k = -2147483648 ∧ ∀ r, r < k → ¬ lgM T d e t y r) ∨ ∃ r, r < k ∧ lgM T d e t y r ∧ (∀ s, r < s → s < k → ¬ lgM T d e t y s) ∧ lgLst T d e t y c k = T d ((r : Int) * 8 + 4 + c) := by
  intro k
  induction k with
  | zero => exact Or.inl ⟨rfl, fun r hr => by omega⟩
  | succ k ih =>
    by_cases h : lgM T d e t y k
    · exact Or.inr ⟨k, by omega, h, fun s s0 s1 => by omega, lgLst_1 h.1 h.2.1 h.2.2.1 h.2.2.2⟩
    · rw [lgLst_0 h]
      rcases ih with ⟨a, b⟩ | ⟨r, r0, r1, r2, r3⟩
      · refine Or.inl ⟨a, fun r hr => ?_⟩
        by_cases e : r = k
        · rw [e]; exact h
        · exact b r (by omega)
      · refine Or.inr ⟨r, by omega, r1, fun s s0 s1 => ?_, r3⟩
        by_cases e : s = k
        · rw [e]; exact h
        · exact r2 s s0 (by omega)
/-- the log alone tells what is stored -/
theorem bylog_eq (h : ER I S n N g lv mv q) (hg : g < 10) (ht : 0 ≤ t ∧ t < 6) (hc : 0 ≤ c ∧ c < 4) : lgLst (lgCom (12000 + g) 1196 N 0 (filI I 1196 0 60 0)) (12000 + g) 1196 t y c N = mValue S 4 t y c := by
  have n60 := h.cnt.2.2.1
  obtain ⟨⟨so1, so2⟩, so3, -⟩ := h.st
  rw [← cell_eq so1 so2 so3 ht hc]
  obtain ⟨a, b⟩ := com_spec (d := 12000 + g) (e := 1196) (by omega) N 0 (filI I 1196 0 60 0)
  have ad : lgCom (12000 + g) 1196 N 0 (filI I 1196 0 60 0) (12000 + g) = I (12000 + g) := (a _ (by omega)).trans (funext (fun z => if_neg (fun w => by omega)))
  have fd : filI I 1196 0 60 0 (12000 + g) = I (12000 + g) := funext (fun z => if_neg (fun w => by omega))
  have rc : ∀ r : Nat, r < N → I (12000 + g) ((r : Int) * 8) = S 246 r ∧ I (12000 + g) ((r : Int) * 8 + 1) = S 247 r ∧ I (12000 + g) ((r : Int) * 8 + 2) = S 248 r ∧ I (12000 + g) ((r : Int) * 8 + 3) = S 249 r := fun r hr => by
    have := h.lg.2 r hr
    unfold lgF at this
    rw [Int.add_zero] at this
    exact this
  have com : ∀ w : Int, 0 ≤ w → w < n → (lgCom (12000 + g) 1196 N 0 (filI I 1196 0 60 0) 1196 w ≠ 0 ↔ S 221 w = 2) := fun w w0 w1 => by
    rw [b w, fd]
    have f0 : filI I 1196 0 60 0 1196 w = 0 := if_pos ⟨rfl, w0, by omega⟩
    have l2 := h.lo.2 w.toNat (by omega)
    rw [show ((w.toNat : Nat) : Int) = w by omega] at l2
    rw [f0, l2]
    constructor
    · rintro (z | ⟨r, r0, r1, r2, r3⟩)
      · exact absurd rfl z
      · obtain ⟨x1, x2, -⟩ := rc r (by omega)
        exact ⟨r, by omega, by omega, x1.symm.trans r2, x2.symm.trans r3⟩
    · rintro ⟨r, r0, r1, r2, r3⟩
      obtain ⟨x1, x2, -⟩ := rc r.toNat (by omega)
      rw [show ((r.toNat : Nat) : Int) = r by omega] at x1 x2
      exact Or.inr ⟨r.toNat, by omega, by omega, by rw [show ((r.toNat : Nat) : Int) = r by omega]; exact ⟨x1.trans r2, x2.trans r3⟩⟩
  have lm : ∀ r : Nat, r < N → (lgM (lgCom (12000 + g) 1196 N 0 (filI I 1196 0 60 0)) (12000 + g) 1196 t y r ↔ ∃ j : Nat, j < n ∧ S 221 j = 2 ∧ wrR S r j t y) := fun r hr => by
    obtain ⟨x1, x2, x3, x4⟩ := rc r hr
    unfold lgM wrR
    rw [ad, x1, x2, x3, x4, h.cnt.2.1]
    constructor
    · rintro ⟨z1, z2, z3, z4⟩
      have wr := (h.lr.1 r (by omega) (by omega)).2 (by omega)
      have c2 := (com _ wr.1 wr.2).mp z4
      exact ⟨(S 247 r).toNat, by omega, by rw [show (((S 247 (r : Int)).toNat : Nat) : Int) = S 247 r by omega]; exact ⟨c2, by omega, by omega, z1, rfl, z2, z3⟩⟩
    · rintro ⟨j, j0, j1, -, -, z1, z2, z3, z4⟩
      exact ⟨z1, z3, z4, (com _ (by omega) (by omega)).mpr (by rw [z2]; exact j1)⟩
  have none' : ∀ p : Int, ∀ k : Nat, k < n → S 221 k = 2 → wrR S p k t y → 0 ≤ p ∧ p < N := fun p k _ _ w => ⟨w.1, by have := w.2.1; have := h.cnt.2.1; omega⟩
  rcases lst_spec (T := lgCom (12000 + g) 1196 N 0 (filI I 1196 0 60 0)) (d := 12000 + g) (e := 1196) (t := t) (y := y) (c := c) N with ⟨e, no⟩ | ⟨r, r0, r1, r2, e⟩
  · rw [e]
    have := h.v2.2 t y ht.1 ht.2 (fun p k hk h22 w => by
      have pr := none' p k hk h22 w
      exact no p.toNat (by omega) ((lm p.toNat (by omega)).mpr ⟨k, hk, h22, by rw [show ((p.toNat : Nat) : Int) = p by omega]; exact w⟩))
    unfold rwCell
    rw [if_pos this]
  · rw [e, ad]
    obtain ⟨j, j0, j1, j2⟩ := (lm r r0).mp r1
    have := h.v2.1 j r t y j0 j1 j2 (fun p k hp hk h22 w => by
      have pr := none' p k hk h22 w
      exact r2 p.toNat (by omega) (by omega) ((lm p.toNat (by omega)).mpr ⟨k, hk, h22, by rw [show ((p.toNat : Nat) : Int) = p by omega]; exact w⟩)) c hc.1 hc.2
    unfold lgF at this
    rw [← this]
    congr 1; omega
/-- own, committed, rowsOf, hasRead -/
theorem own_eq (h : ER I S n N g lv mv q) (hi : i < n) (ht : 0 ≤ t ∧ t < 6) (hc : 0 ≤ c ∧ c < 4) : (if bI (I (tX i) 4 = 0 ∨ I (tX i) 4 = 1) = 1 then rwCell I (tX i + 33) t y c else -2147483648) = if S 221 i < 2 then mValue S (S 223 i) t y c else -2147483648 := by
  have t4 := (h.tx i hi).1.2.2.2.1
  have p := (h.ph i hi).1
  by_cases o : S 221 i < 2
  · obtain ⟨⟨a, b⟩, d, -⟩ := h.own i ⟨hi, o⟩
    rw [if_pos o, if_pos (bI1 (by omega)), cell_eq a b d ht hc]
  · rw [if_neg o, if_neg (by rw [bI0 (by omega)]; decide)]
theorem committed_eq (h : ER I S n N g lv mv q) (ht : 0 ≤ t ∧ t < 6) (hc : 0 ≤ c ∧ c < 4) : rwCell I 1161 t y c = mValue S 4 t y c := cell_eq h.st.1.1 h.st.1.2 h.st.2.1 ht hc
theorem rowsOf_eq (h : ER I S n N g lv mv q) (ht : 0 ≤ t ∧ t < 6) : rwCnt I 1161 t 8 = S 214 (24 + t) := by
  have := count_eq h.st.1.1 h.st.1.2 h.st.2.1 ht
  rw [show (6 * 4 + t : Int) = 24 + t by omega] at this
  exact this
theorem hasRead_eq (h : ER I S n N g lv mv q) (hi : i < n) (ht : 0 ≤ t ∧ t < 6) : bI (whOf I i t ∨ rdOf I i (lv i) t y) = bI (mRead S i t y) := bIc ((h.tx i hi).2.2 t y ht.1 ht.2)
end
