/-! the schema in class and reference -/
section
variable {I S : IT}
def RSch (I S : IT) : Prop := I 1032 0 = S 100 0 ∧ (∀ t, 0 ≤ t → t < 6 → I 1034 t = S 201 t ∧ I 1035 t = S 202 t) ∧ (∀ t j, 0 ≤ t → t < 6 → 0 ≤ j → j < S 202 t → I 1036 ((t * 4 + j) * 3) = S 203 (4 * t + j) ∧ I 1036 ((t * 4 + j) * 3 + 1) = S 204 (4 * t + j) ∧ I 1036 ((t * 4 + j) * 3 + 2) = S 205 (4 * t + j)) ∧ (∀ c, 0 ≤ c → c < 24 → I 1037 c = S 206 c ∧ I 1038 c = S 207 c) ∧ I 1032 6 = S 100 8 ∧ ∀ j, 0 ≤ j → j < S 100 8 → I 1040 (j * 5) = S 209 j ∧ I 1040 (j * 5 + 1) = S 210 j ∧ I 1040 (j * 5 + 2) = S 211 j ∧ I 1040 (j * 5 + 3) = S 212 j ∧ I 1040 (j * 5 + 4) = S 213 j
/-- the reference's schema is in order -/
def SSch (S : IT) : Prop := (0 ≤ S 100 0 ∧ S 100 0 ≤ 6) ∧ (∀ t, 0 ≤ t → t < S 100 0 → 1 ≤ S 201 t ∧ S 201 t ≤ 4) ∧ (∀ t, S 100 0 ≤ t → t < 6 → S 201 t = 0 ∧ S 202 t = 0) ∧ (∀ t, 0 ≤ t → t < 6 → 0 ≤ S 202 t ∧ S 202 t ≤ 4) ∧ (∀ t j, 0 ≤ t → t < 6 → 0 ≤ j → j < S 202 t → 0 ≤ S 203 (4 * t + j) ∧ S 203 (4 * t + j) < S 201 t) ∧ (∀ t c, 0 ≤ t → t < 6 → 0 ≤ c → c < 4 → S 206 (4 * t + c) = -1 ∨ (t < S 100 0 ∧ 1 ≤ c ∧ c < S 201 t ∧ 0 ≤ S 206 (4 * t + c) ∧ S 206 (4 * t + c) < S 100 0)) ∧ (0 ≤ S 100 8 ∧ S 100 8 ≤ 12) ∧ (∀ j, 0 ≤ S 211 j ∧ S 211 j < 4) ∧ ∀ k, S 206 k = -1 ∨ (0 ≤ S 206 k ∧ S 206 k < 6)
theorem SchB.of2 (h : RSch I S) (hs : SSch S) : SchB I := by
  obtain ⟨a1, a2, a3, a4, a5, a6⟩ := h
  obtain ⟨b1, b2, b3, b4, b5, b6, b7, b8, b9⟩ := hs
  refine ⟨by rw [a1]; exact b1, fun t h0 h1 => by rw [(a2 t h0 (by omega)).1]; exact b2 t h0 (by omega), fun t h0 h1 => by rw [(a2 t h0 h1).2]; exact b4 t h0 h1, fun t j h0 h1 j0 j1 => ?_, fun c h0 h1 => by rw [(a4 c h0 h1).1]; exact b9 c, by rw [a5]; exact b7, fun j h0 h1 => by rw [(a6 j h0 (by omega)).2.2.1]; exact b8 j⟩
  rw [(a2 t h0 h1).2] at j1
  rw [(a3 t j h0 h1 j0 j1).1]
  have := b5 t j h0 h1 j0 j1
  have w : S 201 t ≤ 4 := by
    by_cases q : t < S 100 0
    · exact (b2 t h0 q).2
    · rw [(b3 t (by omega) h1).1]; decide
  omega
theorem SSch.wid (h : SSch S) {t : Int} (ht : 0 ≤ t ∧ t < 6) : 0 ≤ S 201 t ∧ S 201 t ≤ 4 := by
  by_cases q : t < S 100 0
  · have := h.2.1 t ht.1 q; omega
  · rw [(h.2.2.1 t (by omega) ht.2).1]; decide
/-- a row passes all checks of its table -/
def rowOk (S : IT) (t : Int) (ρ : Rw4) : Prop := ∀ j, 0 ≤ j → j < S 202 t → cmp3 (g4 ρ (S 203 (4 * t + j))) (S 204 (4 * t + j)) (S 205 (4 * t + j)) ≠ 0
/-- a role sees a row -/
def rowSeen (S : IT) (o t : Int) (ρ : Rw4) : Prop := ∀ j, 0 ≤ j → j < S 100 8 → S 209 j = o → S 210 j = t → cmp3 (g4 ρ (S 211 j)) (S 212 j) (S 213 j) = 1
theorem chk_eq (h : RSch I S) (hs : SSch S) {p : Nat} {t z : Int} (ht : 0 ≤ t ∧ t < 6) : scPass I 1035 1036 p t z = 1 ↔ rowOk S t (q4 (I p) z) := by
  have hw := hs.wid ht
  have key : (∀ j : Int, 0 ≤ j → j < I 1035 t → scChk I 1036 p t z j) ↔ rowOk S t (q4 (I p) z) := by
    rw [(h.2.1 t ht.1 ht.2).2]
    unfold rowOk scChk
    constructor
    · intro q j j0 j1
      have hc := hs.2.2.2.2.1 t j ht.1 ht.2 j0 j1
      obtain ⟨e1, e2, e3⟩ := h.2.2.1 t j ht.1 ht.2 j0 j1
      have := q j j0 j1
      rw [e1, e2, e3] at this
      rw [g4_q ⟨hc.1, by omega⟩]
      exact this
    · intro q j j0 j1
      have hc := hs.2.2.2.2.1 t j ht.1 ht.2 j0 j1
      obtain ⟨e1, e2, e3⟩ := h.2.2.1 t j ht.1 ht.2 j0 j1
      have := q j j0 j1
      rw [g4_q ⟨hc.1, by omega⟩] at this
      rw [e1, e2, e3]
      exact this
  unfold scPass
  rw [← key]
  exact ⟨fun q => bIn (by rw [q]; decide), fun q => bI1 q⟩
theorem see_eq (h : RSch I S) (hs : SSch S) {p : Nat} {o t z : Int} : scSee I 1032 1040 p o t z = 1 ↔ rowSeen S o t (q4 (I p) z) := by
  have key : (∀ j : Int, 0 ≤ j → j < I 1032 6 → ¬ scHid I 1040 p o t z j) ↔ rowSeen S o t (q4 (I p) z) := by
    rw [h.2.2.2.2.1]
    unfold rowSeen scHid
    constructor
    · intro q j j0 j1 e1 e2
      obtain ⟨f1, f2, f3, f4, f5⟩ := h.2.2.2.2.2 j j0 j1
      rw [g4_q (hs.2.2.2.2.2.2.2.1 j)]
      have := q j j0 j1
      rw [f1, f2, f3, f4, f5] at this
      exact Classical.byContradiction (fun z => this ⟨e1, e2, z⟩)
    · intro q j j0 j1
      obtain ⟨f1, f2, f3, f4, f5⟩ := h.2.2.2.2.2 j j0 j1
      rw [f1, f2, f3, f4, f5]
      rintro ⟨e1, e2, e3⟩
      have := q j j0 j1 e1 e2
      rw [g4_q (hs.2.2.2.2.2.2.2.1 j)] at this
      exact e3 this
  unfold scSee
  rw [← key]
  exact ⟨fun q => bIn (by rw [q]; decide), fun q => bI1 q⟩
theorem mseen_eq (hs : SSch S) {o s t r : Int} : mSeen S o s t r ↔ rowSeen S o t (q4 (S 215) (mrow s t r)) := by
  unfold mSeen rowSeen
  constructor
  · intro q j j0 j1 e1 e2
    rw [g4_q (hs.2.2.2.2.2.2.2.1 j)]
    exact q j j0 j1 e1 e2
  · intro q j j0 j1 e1 e2
    have := q j j0 j1 e1 e2
    rw [g4_q (hs.2.2.2.2.2.2.2.1 j)] at this
    exact this
/-- the reference's checks of a row, column by column -/
theorem mchk_eq (hs : SSch S) {t : Int} {ρ : Rw4} (ht : 0 ≤ t ∧ t < 6) : (∀ c, 0 ≤ c → c < S 201 t → mCheckOk S t c (g4 ρ c)) ↔ rowOk S t ρ := by
  unfold rowOk mCheckOk
  constructor
  · intro q j j0 j1
    have hc := hs.2.2.2.2.1 t j ht.1 ht.2 j0 j1
    exact q _ hc.1 hc.2 (4 * t + j) (by omega) (by omega) rfl
  · intro q c c0 c1 j j0 j1 e
    have := q (j - 4 * t) (by omega) (by omega)
    rw [show 4 * t + (j - 4 * t) = j by omega, e] at this
    exact this
/-- a reference of a column is kept -/
theorem frC_eq {s : Int} {i : Nat} {c v : Int} (h : RSch I S) (hs : SSch S) (hE : RowEq I (tX i + 33) S s) (hm : RWm S s) (h8 : I (tX i) 8 = S 228 i) (ht : 0 ≤ S 228 i ∧ S 228 i < 6) (hc : 0 ≤ c ∧ c < 4) : frC I i c v ↔ mRefOk S s (S 228 i) c v := by
  unfold frC mRefOk
  have e : I 1037 (S 228 i * 4 + c) = S 206 (4 * S 228 i + c) := by
    rw [show S 228 i * 4 + c = 4 * S 228 i + c by omega]
    exact (h.2.2.2.1 _ (by omega) (by omega)).1
  rw [h8, e]
  rcases hs.2.2.2.2.2.2.2.2 (4 * S 228 i + c) with q | q
  · exact ⟨fun _ => Or.inl q, fun _ => Or.inl q⟩
  · have := find_eq (y := v) hE hm q
    rw [Ne, Ne, this]
theorem frY_eq {i : Nat} {c v t y : Int} (h : RSch I S) (h8 : I (tX i) 8 = S 228 i) (ht : 0 ≤ S 228 i ∧ S 228 i < 6) (hc : 0 ≤ c ∧ c < 4) : frY I i c v t y ↔ (S 206 (4 * S 228 i + c) ≠ -1 ∧ v ≠ -2147483648 ∧ t = S 206 (4 * S 228 i + c) ∧ y = v) := by
  unfold frY
  have e : I 1037 (S 228 i * 4 + c) = S 206 (4 * S 228 i + c) := by
    rw [show S 228 i * 4 + c = 4 * S 228 i + c by omega]
    exact (h.2.2.2.1 _ (by omega) (by omega)).1
  rw [h8, e]
end
