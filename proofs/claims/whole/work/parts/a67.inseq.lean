/-! an insert's trial in class and reference -/
section
variable {A S : IT} {i : Nat} {s : Int}
/-- what a trial stands on -/
def TrH (A S : IT) (i : Nat) (s : Int) : Prop := (RSch A S ∧ SSch S) ∧ (RowEq A 1129 S s ∧ RWc A 1129) ∧ (RowEq A (tX i + 33) S s ∧ RWc A (tX i + 33)) ∧ (RWm S s ∧ SChk S s) ∧ (A (tX i) 1 = S 220 i ∧ A (tX i) 7 = S 227 i ∧ A (tX i) 8 = S 228 i) ∧ (0 ≤ S 228 i ∧ S 228 i < S 100 0)
def InH (A S : IT) (i : Nat) : Prop := A (tX i) 9 = S 232 (4 * (i : Int)) ∧ (∀ c, 0 ≤ c → c < 4 → A (tX i + 13) c = S 232 (4 * (i : Int) + c)) ∧ ∀ c, 0 ≤ c → c < 4 → okV (S 232 (4 * (i : Int) + c))
theorem TrH.t6 (h : TrH A S i s) : 0 ≤ S 228 i ∧ S 228 i < 6 := by
  have := h.1.2.1
  have := h.2.2.2.2.2
  omega
theorem mInsC_iff {T : IT} (e1 : ∀ o k, o ≠ 233 → o ≠ 234 → o ≠ 235 → o ≠ 236 → o ≠ 100 → T o k = S o k) {t c : Int} : mInsC T i t c ↔ mCheckOk S t c (S 232 (4 * (i : Int) + c)) ∧ mRefOk S (S 223 i) t c (S 232 (4 * (i : Int) + c)) := by
  have e : ∀ o, o ≠ 233 → o ≠ 234 → o ≠ 235 → o ≠ 236 → o ≠ 100 → T o = S o := fun o h1 h2 h3 h4 h5 => funext (fun k => e1 o k h1 h2 h3 h4 h5)
  unfold mInsC mCheckOk mRefOk mfind
  rw [e 202 (by decide) (by decide) (by decide) (by decide) (by decide), e 203 (by decide) (by decide) (by decide) (by decide) (by decide), e 204 (by decide) (by decide) (by decide) (by decide) (by decide), e 205 (by decide) (by decide) (by decide) (by decide) (by decide), e 206 (by decide) (by decide) (by decide) (by decide) (by decide), e 214 (by decide) (by decide) (by decide) (by decide) (by decide), e 215 (by decide) (by decide) (by decide) (by decide) (by decide), e 223 (by decide) (by decide) (by decide) (by decide) (by decide), e 232 (by decide) (by decide) (by decide) (by decide) (by decide)]
theorem ins_ok {T : IT} (e1 : ∀ o k, o ≠ 233 → o ≠ 234 → o ≠ 235 → o ≠ 236 → o ≠ 100 → T o k = S o k) (h : TrH A S i s) (hi : InH A S i) (hs : S 223 i = s) : insOk A i ↔ mInsOk T i (S 228 i) (S 232 (4 * (i : Int))) := by
  have t6 := h.t6
  obtain ⟨⟨hR, hS⟩, ⟨hE, hW⟩, ⟨hE2, hW2⟩, ⟨hm, hk⟩, ⟨h1, h7, h8⟩, ht⟩ := h
  obtain ⟨g9, gc, gv⟩ := hi
  have e : ∀ o, o ≠ 233 → o ≠ 234 → o ≠ 235 → o ≠ 236 → o ≠ 100 → T o = S o := fun o h1 h2 h3 h4 h5 => funext (fun k => e1 o k h1 h2 h3 h4 h5)
  have w := hS.2.1 (S 228 i) ht.1 ht.2
  have rw0 : q4 (A (tX i + 13)) 0 = q4 (S 232) (4 * (i : Int)) := q4_of (fun c c0 c1 => by rw [Int.zero_add]; exact gc c c0 c1)
  have e34 : A 1034 (S 228 i) = S 201 (S 228 i) := (hR.2.1 _ t6.1 t6.2).1
  have hA : mInsA T i (S 228 i) (S 232 (4 * (i : Int))) ↔ (A (tX i) 9 ≠ -2147483648 ∧ rwF A 1129 (A (tX i) 8) (-2147483648) ≠ -1 ∧ rwFind A 1129 (A (tX i) 8) (A (tX i) 9) = -1) := by
    unfold mInsA
    have em : mfind T (T 223 i) (S 228 i) (S 232 (4 * (i : Int))) = mfind S s (S 228 i) (S 232 (4 * (i : Int))) := by
      unfold mfind
      rw [e 214 (by decide) (by decide) (by decide) (by decide) (by decide), e 215 (by decide) (by decide) (by decide) (by decide) (by decide), e 223 (by decide) (by decide) (by decide) (by decide) (by decide), hs]
    rw [em, e 214 (by decide) (by decide) (by decide) (by decide) (by decide), e 223 (by decide) (by decide) (by decide) (by decide) (by decide), hs, g9, h8, free_eq hE hW hm t6, find_eq hE hm t6]
    exact ⟨fun ⟨a, b, c⟩ => ⟨a, c, b⟩, fun ⟨a, b, c⟩ => ⟨a, c, b⟩⟩
  have hC : (∀ c, 0 ≤ c → c < T 201 (S 228 i) → mInsC T i (S 228 i) c) ↔ (scPass A 1035 1036 (tX i + 13) (A (tX i) 8) 0 = 1 ∧ ∀ c, 1 ≤ c → c < A 1034 (A (tX i) 8) → frC A i c (A (tX i + 13) c)) := by
    rw [e 201 (by decide) (by decide) (by decide) (by decide) (by decide), h8, chk_eq hR hS t6, rw0, ← mchk_eq hS t6, e34]
    constructor
    · intro q
      refine ⟨fun c c0 c1 => ?_, fun c c0 c1 => ?_⟩
      · rw [g4_q ⟨c0, by omega⟩]
        exact ((mInsC_iff e1).mp (q c c0 c1)).1
      · have := ((mInsC_iff e1).mp (q c (by omega) c1)).2
        rw [hs] at this
        rw [gc c (by omega) (by omega)]
        exact (frC_eq hR hS hE2 hm h8 t6 ⟨by omega, by omega⟩).mpr this
    · rintro ⟨q1, q2⟩ c c0 c1
      refine (mInsC_iff e1).mpr ⟨by have := q1 c c0 c1; rwa [g4_q ⟨c0, by omega⟩] at this, ?_⟩
      rw [hs]
      by_cases hc : c = 0
      · subst hc
        rcases hS.2.2.2.2.2.1 (S 228 i) 0 t6.1 t6.2 (by decide) (by decide) with z | z
        · exact Or.inl z
        · omega
      · have := q2 c (by omega) c1
        rw [gc c (by omega) (by omega)] at this
        exact (frC_eq hR hS hE2 hm h8 t6 ⟨by omega, by omega⟩).mp this
  unfold insOk mInsOk
  rw [hA, hC]
  constructor
  · rintro ⟨a, b, c, d, f⟩; exact ⟨⟨a, b, c⟩, d, f⟩
  · rintro ⟨⟨a, b, c⟩, d, f⟩; exact ⟨a, b, c, d, f⟩
theorem ins_y (h : TrH A S i s) (hi : InH A S i) : ∀ t y, insY A i t y ↔ mInY S i (S 228 i) (S 201 (S 228 i) - 1).toNat t y := by
  have t6 := h.t6
  obtain ⟨⟨hR, hS⟩, ⟨hE, hW⟩, ⟨hE2, hW2⟩, ⟨hm, hk⟩, ⟨h1, h7, h8⟩, ht⟩ := h
  obtain ⟨g9, gc, gv⟩ := hi
  have w := hS.2.1 (S 228 i) ht.1 ht.2
  have e34 : A 1034 (S 228 i) = S 201 (S 228 i) := (hR.2.1 _ t6.1 t6.2).1
  intro t y
  unfold insY mInY
  rw [g9, h8, e34]
  constructor
  · rintro (q | ⟨j, j0, j1, q⟩)
    · exact Or.inl q
    · rw [gc j (by omega) (by omega)] at q
      exact Or.inr ⟨j, j0, by omega, (frY_eq hR h8 t6 ⟨by omega, by omega⟩).mp q⟩
  · rintro (q | ⟨j, j0, j1, q⟩)
    · exact Or.inl q
    · refine Or.inr ⟨j, j0, by omega, ?_⟩
      rw [gc j (by omega) (by omega)]
      exact (frY_eq hR h8 t6 ⟨by omega, by omega⟩).mpr q
/-- rows behind an insert -/
def InsE (S : IT) (i : Nat) (s : Int) (S2 : IT) : Prop := (∀ k, S2 214 k = if k = 6 * s + S 228 i then S 214 (6 * s + S 228 i) + 1 else S 214 k) ∧ ∀ z, S2 215 z = if mrow s (S 228 i) (S 214 (6 * s + S 228 i)) ≤ z ∧ z < mrow s (S 228 i) (S 214 (6 * s + S 228 i)) + 4 then S 232 (4 * (i : Int) + (z - mrow s (S 228 i) (S 214 (6 * s + S 228 i)))) else S 215 z
theorem ins_rw {T S2 : IT} (h : TrH A S i s) (hi : InH A S i) (hok : insOk A i) (hT : insRw A i T) (h2 : InsE S i s S2) (e2 : ∀ o k, o = 202 ∨ o = 203 ∨ o = 204 ∨ o = 205 → S2 o k = S o k) : RowEq T 1129 S2 s ∧ RWc T 1129 ∧ RWm S2 s ∧ SChk S2 s := by
  have t6 := h.t6
  obtain ⟨⟨hR, hS⟩, ⟨hE, hW⟩, ⟨hE2, hW2⟩, ⟨hm, hk⟩, ⟨h1, h7, h8⟩, ht⟩ := h
  obtain ⟨g9, gc, gv⟩ := hi
  obtain ⟨k1, k2, k3, k4, k5⟩ := hok
  rw [g9] at k1 k3
  rw [h8] at k2 k3 k4
  have n8 := (free_eq hE hW hm t6).mp k2
  rcases rwF_rg A 1129 (S 228 i) (-2147483648) with q | ⟨p0, p1, p2⟩
  · exact absurd q k2
  have g0 : S 232 (4 * (i : Int)) = A (tX i + 13) 0 := by have := gc 0 (by decide) (by decide); rw [Int.add_zero] at this; exact this.symm
  have eT : ∀ z, 0 ≤ z → z < 192 → T 1129 z = if rwF A 1129 (S 228 i) (-2147483648) * 4 ≤ z ∧ z < rwF A 1129 (S 228 i) (-2147483648) * 4 + 4 then (fun c => A (tX i + 13) c) (z - rwF A 1129 (S 228 i) (-2147483648) * 4) else A 1129 z := fun z z0 z1 => by
    rw [hT.1, h8]
    unfold cpyI
    by_cases q : rwF A 1129 (S 228 i) (-2147483648) * 4 ≤ z ∧ z < rwF A 1129 (S 228 i) (-2147483648) * 4 + 4
    · rw [if_pos ⟨rfl, q⟩, if_pos q, Int.zero_add]
    · rw [if_neg (fun w => q w.2), if_neg q]
  have hv : ∀ c, 0 ≤ c → c < 4 → okV (A (tX i + 13) c) := fun c c0 c1 => by rw [gc c c0 c1]; exact gv c c0 c1
  have hf : (fun c => A (tX i + 13) c) 0 ≠ -2147483648 := by show A (tX i + 13) 0 ≠ _; rw [← g0]; exact k1
  have c1 := cIn_put (I := A) (I' := T) (a := 1129) (f := fun c => A (tX i + 13) c) ⟨p0, p1⟩ t6 p2 hf eT
  have hn := (rwFind_none t6).mp k3
  have hn' : ∀ q, S 228 i * 8 ≤ q → q < S 228 i * 8 + 8 → A 1129 (q * 4) ≠ (fun c => A (tX i + 13) c) 0 := fun q q0 q1 => by
    show A 1129 (q * 4) ≠ A (tX i + 13) 0
    rw [← g0]
    exact (hn.resolve_left k1) q q0 q1
  have r1 := RWc.put (I := A) (I' := T) (a := 1129) (f := fun c => A (tX i + 13) c) hW ⟨p0, p1⟩ t6 hf hv hn' eT
  have f0 : (fun c => S 232 (4 * (i : Int) + c)) 0 = S 232 (4 * (i : Int)) := by show S 232 (4 * (i : Int) + 0) = _; rw [Int.add_zero]
  have m1 := mIn_put (S := S) (S' := S2) (f := fun c => S 232 (4 * (i : Int) + c)) (fun t a b => ⟨(hm.1 t a b).1, by have := (hm.1 t a b).2; omega⟩) t6 h2.1 h2.2
  have r2 := RWm.put (S := S) (S' := S2) (f := fun c => S 232 (4 * (i : Int) + c)) hm t6 n8 (by rw [Int.add_zero]; exact k1) gv (by rw [Int.add_zero]; exact (find_eq hE hm t6).mp k3) h2.1 h2.2
  have er : q4 (fun c => A (tX i + 13) c) 0 = q4 (fun c => S 232 (4 * (i : Int) + c)) 0 := q4_of (fun c c0 c1 => by rw [Int.zero_add]; exact gc c c0 c1)
  refine ⟨fun t ρ t0 t1 => ?_, r1, r2, fun t ρ t0 t1 hρ => ?_⟩
  · rw [c1 t ρ t0 t1, m1 t ρ t0 t1, hE t ρ t0 t1, er]
  · rw [rowOk_of (S := S) (fun k => e2 202 k (Or.inl rfl)) (fun k => e2 203 k (Or.inr (Or.inl rfl))) (fun k => e2 204 k (Or.inr (Or.inr (Or.inl rfl)))) (fun k => e2 205 k (Or.inr (Or.inr (Or.inr rfl))))]
    rcases (m1 t ρ t0 t1).mp hρ with q | ⟨rfl, rfl⟩
    · exact hk t ρ t0 t1 q
    · have := (chk_eq hR hS t6).mp k4
      have er2 : q4 (A (tX i + 13)) 0 = q4 (fun c => S 232 (4 * (i : Int) + c)) 0 := er
      rw [er2] at this
      exact this
end
