/-! a row put in: class and reference -/
section
variable {I I' S S' : IT} {a : Nat} {s t : Int}
theorem RowEq.of {a' : Nat} (h : RowEq I a S s) (e : ∀ z, 0 ≤ z → z < 192 → I' a' z = I a z) : RowEq I' a' S s := by
  intro t ρ h0 h1
  rw [← h t ρ h0 h1]
  unfold cIn
  constructor
  · rintro ⟨p, p1, p2, p3, p4⟩
    refine ⟨p, p1, p2, by rw [← e _ (by omega) (by omega)]; exact p3, p4.trans (q4_of (fun c c0 c1 => e _ (by omega) (by omega)))⟩
  · rintro ⟨p, p1, p2, p3, p4⟩
    refine ⟨p, p1, p2, by rw [e _ (by omega) (by omega)]; exact p3, p4.trans (q4_of (fun c c0 c1 => (e _ (by omega) (by omega)).symm))⟩
theorem RWc.of {a' : Nat} (h : RWc I a) (e : ∀ z, 0 ≤ z → z < 192 → I' a' z = I a z) : RWc I' a' := by
  obtain ⟨h1, h2, h3⟩ := h
  refine ⟨fun t p q t0 t1 p0 p1 q0 q1 hp hq => ?_, fun p c p0 p1 hp c0 c1 => ?_, fun z z0 z1 => by rw [e z z0 z1]; exact h3 z z0 z1⟩
  · rw [e _ (by omega) (by omega)] at hp hq
    rw [e _ (by omega) (by omega)] at hq
    exact h1 t p q t0 t1 p0 p1 q0 q1 hp hq
  · rw [e _ (by omega) (by omega)] at hp
    rw [e _ (by omega) (by omega)]
    exact h2 p c p0 p1 hp c0 c1
theorem mIn_of (e1 : ∀ k, S' 214 k = S 214 k) (e2 : ∀ k, S' 215 k = S 215 k) {ρ : Rw4} : mIn S' s t ρ ↔ mIn S s t ρ := by
  unfold mIn
  have : S' 215 = S 215 := funext e2
  rw [this, e1]
theorem RWm.of (h : RWm S s) (e1 : ∀ k, S' 214 k = S 214 k) (e2 : ∀ k, S' 215 k = S 215 k) : RWm S' s := by
  have e1 : S' 214 = S 214 := funext e1
  have e2 : S' 215 = S 215 := funext e2
  unfold RWm at *
  rw [e1, e2]
  exact h
theorem RowEq.ofS (h : RowEq I a S s) (e1 : ∀ k, S' 214 k = S 214 k) (e2 : ∀ k, S' 215 k = S 215 k) : RowEq I a S' s := fun t ρ h0 h1 => (h t ρ h0 h1).trans (mIn_of e1 e2).symm
/-- a free place is found exactly if there are not 8 rows -/
theorem free_eq (hE : RowEq I a S s) (hW : RWc I a) (hm : RWm S s) (ht : 0 ≤ t ∧ t < 6) : rwF I a t (-2147483648) ≠ -1 ↔ S 214 (6 * s + t) < 8 := by
  have hc := count_eq hE hW hm ht
  have h8 := hm.1 t ht.1 ht.2
  unfold rwCnt at hc
  have tru : cntI (fun _ => True) 8 = 8 := by
    unfold cntI cntI cntI cntI cntI cntI cntI cntI cntI
    rw [bI1 trivial]; rfl
  constructor
  · intro h
    have hn := fun q => h ((rwF_none ht).mpr q)
    have : ∃ p, t * 8 ≤ p ∧ p < t * 8 + 8 ∧ I a (p * 4) = -2147483648 := Classical.byContradiction (fun z => hn (fun p p0 p1 e => z ⟨p, p0, p1, e⟩))
    obtain ⟨p, p0, p1, e⟩ := this
    have := cntI_lt (g := fun k => I a ((t * 8 + k) * 4) ≠ -2147483648) (h := fun _ => True) 8 (p - t * 8).toNat (by omega) (fun _ _ _ => trivial) (by
      show ¬ (I a ((t * 8 + (((p - t * 8).toNat : Nat) : Int)) * 4) ≠ -2147483648)
      rw [show t * 8 + (((p - t * 8).toNat : Nat) : Int) = p by omega]
      exact fun z => z e) trivial
    omega
  · intro h e
    have hn := (rwF_none ht).mp e
    have := cntI_le (g := fun _ => True) (h := fun k => I a ((t * 8 + k) * 4) ≠ -2147483648) 8 (fun j hj _ => hn _ (by omega) (by omega))
    omega
/-- the class puts a row into a free place -/
theorem cIn_put {p : Int} {f : Int → Int} (hp : t * 8 ≤ p ∧ p < t * 8 + 8) (ht : 0 ≤ t ∧ t < 6) (h0 : I a (p * 4) = -2147483648) (hf : f 0 ≠ -2147483648) (e : ∀ z, 0 ≤ z → z < 192 → I' a z = if p * 4 ≤ z ∧ z < p * 4 + 4 then f (z - p * 4) else I a z) : ∀ t' ρ, 0 ≤ t' → t' < 6 → (cIn I' a t' ρ ↔ cIn I a t' ρ ∨ (t' = t ∧ ρ = q4 f 0)) := by
  intro t' ρ t0 t1
  have same : ∀ q, 0 ≤ q → q < 48 → q ≠ p → ∀ c, 0 ≤ c → c < 4 → I' a (q * 4 + c) = I a (q * 4 + c) := fun q q0 q1 hq c c0 c1 => by rw [e _ (by omega) (by omega), if_neg (by omega)]
  have here : ∀ c, 0 ≤ c → c < 4 → I' a (p * 4 + c) = f c := fun c c0 c1 => by rw [e _ (by omega) (by omega), if_pos (by omega), show p * 4 + c - p * 4 = c by omega]
  have h00 : I' a (p * 4) = f 0 := by have := here 0 (by decide) (by decide); rwa [Int.add_zero] at this
  unfold cIn
  constructor
  · rintro ⟨q, q0, q1, q2, rfl⟩
    by_cases hq : q = p
    · subst hq
      refine Or.inr ⟨by omega, q4_of (fun c c0 c1 => by rw [here c c0 c1, Int.zero_add])⟩
    · have := same q (by omega) (by omega) hq 0 (by decide) (by decide)
      rw [Int.add_zero] at this
      exact Or.inl ⟨q, q0, q1, by rw [← this]; exact q2, q4_of (fun c c0 c1 => same q (by omega) (by omega) hq c c0 c1)⟩
  · rintro (⟨q, q0, q1, q2, rfl⟩ | ⟨rfl, rfl⟩)
    · have hq : q ≠ p := fun z => q2 (z ▸ h0)
      have := same q (by omega) (by omega) hq 0 (by decide) (by decide)
      rw [Int.add_zero] at this
      exact ⟨q, q0, q1, by rw [this]; exact q2, q4_of (fun c c0 c1 => (same q (by omega) (by omega) hq c c0 c1).symm)⟩
    · exact ⟨p, hp.1, hp.2, by rw [h00]; exact hf, q4_of (fun c c0 c1 => by rw [here c c0 c1, Int.zero_add])⟩
theorem RWc.put {p : Int} {f : Int → Int} (h : RWc I a) (hp : t * 8 ≤ p ∧ p < t * 8 + 8) (ht : 0 ≤ t ∧ t < 6) (hf : f 0 ≠ -2147483648) (hv : ∀ c, 0 ≤ c → c < 4 → okV (f c)) (hn : ∀ q, t * 8 ≤ q → q < t * 8 + 8 → I a (q * 4) ≠ f 0) (e : ∀ z, 0 ≤ z → z < 192 → I' a z = if p * 4 ≤ z ∧ z < p * 4 + 4 then f (z - p * 4) else I a z) : RWc I' a := by
  have same : ∀ q, 0 ≤ q → q < 48 → q ≠ p → ∀ c, 0 ≤ c → c < 4 → I' a (q * 4 + c) = I a (q * 4 + c) := fun q q0 q1 hq c c0 c1 => by rw [e _ (by omega) (by omega), if_neg (by omega)]
  have same0 : ∀ q, 0 ≤ q → q < 48 → q ≠ p → I' a (q * 4) = I a (q * 4) := fun q q0 q1 hq => by have := same q q0 q1 hq 0 (by decide) (by decide); rwa [Int.add_zero] at this
  have here : ∀ c, 0 ≤ c → c < 4 → I' a (p * 4 + c) = f c := fun c c0 c1 => by rw [e _ (by omega) (by omega), if_pos (by omega), show p * 4 + c - p * 4 = c by omega]
  have h00 : I' a (p * 4) = f 0 := by have := here 0 (by decide) (by decide); rwa [Int.add_zero] at this
  obtain ⟨h1, h2, h3⟩ := h
  refine ⟨fun t' x y t0 t1 x0 x1 y0 y1 hx hxy => ?_, fun x c x0 x1 hx c0 c1 => ?_, fun z z0 z1 => ?_⟩
  · by_cases ex : x = p
    · by_cases ey : y = p
      · omega
      · rw [ex, h00, same0 y (by omega) (by omega) ey] at hxy
        exact absurd hxy.symm (hn y (by omega) (by omega))
    · rw [same0 x (by omega) (by omega) ex] at hx hxy
      by_cases ey : y = p
      · rw [ey, h00] at hxy
        exact absurd hxy (hn x (by omega) (by omega))
      · rw [same0 y (by omega) (by omega) ey] at hxy
        exact h1 t' x y t0 t1 x0 x1 y0 y1 hx hxy
  · by_cases ex : x = p
    · rw [ex, h00] at hx
      exact absurd hx hf
    · rw [same0 x x0 x1 ex] at hx
      rw [same x x0 x1 ex c c0 c1]
      exact h2 x c x0 x1 hx c0 c1
  · rw [e z z0 z1]
    split
    · exact hv _ (by omega) (by omega)
    · exact h3 z z0 z1
/-- the reference puts a row behind the others -/
theorem mIn_put {f : Int → Int} (h8 : ∀ t, 0 ≤ t → t < 6 → 0 ≤ S 214 (6 * s + t) ∧ S 214 (6 * s + t) ≤ 63) (ht : 0 ≤ t ∧ t < 6) (e1 : ∀ k, S' 214 k = if k = 6 * s + t then S 214 (6 * s + t) + 1 else S 214 k) (e2 : ∀ z, S' 215 z = if mrow s t (S 214 (6 * s + t)) ≤ z ∧ z < mrow s t (S 214 (6 * s + t)) + 4 then f (z - mrow s t (S 214 (6 * s + t))) else S 215 z) : ∀ t' ρ, 0 ≤ t' → t' < 6 → (mIn S' s t' ρ ↔ mIn S s t' ρ ∨ (t' = t ∧ ρ = q4 f 0)) := by
  intro t' ρ t0 t1
  have hc := h8 t ht.1 ht.2
  have hc' := h8 t' t0 t1
  have here : ∀ c, 0 ≤ c → c < 4 → S' 215 (mrow s t (S 214 (6 * s + t)) + c) = f c := fun c c0 c1 => by rw [e2, if_pos (by omega)]; congr 1; omega
  have same : ∀ r, 0 ≤ r → r < S 214 (6 * s + t') → ∀ c, 0 ≤ c → c < 4 → S' 215 (mrow s t' r + c) = S 215 (mrow s t' r + c) := fun r r0 r1 c c0 c1 => by
    rw [e2, if_neg]
    unfold mrow
    by_cases q : t' = t
    · subst q; omega
    · omega
  unfold mIn
  rw [e1]
  constructor
  · rintro ⟨r, r0, r1, rfl⟩
    by_cases q : t' = t
    · subst q
      rw [if_pos rfl] at r1
      by_cases hr : r = S 214 (6 * s + t')
      · rw [hr]
        exact Or.inr ⟨rfl, q4_of (fun c c0 c1 => by rw [here c c0 c1, Int.zero_add])⟩
      · exact Or.inl ⟨r, r0, by omega, q4_of (fun c c0 c1 => same r r0 (by omega) c c0 c1)⟩
    · rw [if_neg (by omega)] at r1
      exact Or.inl ⟨r, r0, r1, q4_of (fun c c0 c1 => same r r0 r1 c c0 c1)⟩
  · rintro (⟨r, r0, r1, rfl⟩ | ⟨rfl, rfl⟩)
    · refine ⟨r, r0, ?_, q4_of (fun c c0 c1 => (same r r0 r1 c c0 c1).symm)⟩
      split
      · rename_i q
        have : t' = t := by omega
        subst this
        omega
      · exact r1
    · exact ⟨S 214 (6 * s + t'), hc.1, by rw [if_pos rfl]; omega, q4_of (fun c c0 c1 => by rw [here c c0 c1, Int.zero_add])⟩
theorem RWm.put {f : Int → Int} (h : RWm S s) (ht : 0 ≤ t ∧ t < 6) (h7 : S 214 (6 * s + t) < 8) (hf : f 0 ≠ -2147483648) (hv : ∀ c, 0 ≤ c → c < 4 → okV (f c)) (hn : mfind S s t (f 0) = -1) (e1 : ∀ k, S' 214 k = if k = 6 * s + t then S 214 (6 * s + t) + 1 else S 214 k) (e2 : ∀ z, S' 215 z = if mrow s t (S 214 (6 * s + t)) ≤ z ∧ z < mrow s t (S 214 (6 * s + t)) + 4 then f (z - mrow s t (S 214 (6 * s + t))) else S 215 z) : RWm S' s := by
  have h8 := h.1
  have hc := h8 t ht.1 ht.2
  have hn' := (mfind_none hc.1).mp hn
  have here : ∀ c, 0 ≤ c → c < 4 → S' 215 (mrow s t (S 214 (6 * s + t)) + c) = f c := fun c c0 c1 => by rw [e2, if_pos (by omega)]; congr 1; omega
  have h00 : S' 215 (mrow s t (S 214 (6 * s + t))) = f 0 := by have := here 0 (by decide) (by decide); rwa [Int.add_zero] at this
  have same : ∀ t' r, 0 ≤ t' → t' < 6 → 0 ≤ r → r < S 214 (6 * s + t') → ∀ c, 0 ≤ c → c < 4 → S' 215 (mrow s t' r + c) = S 215 (mrow s t' r + c) := fun t' r t0 t1 r0 r1 c c0 c1 => by
    have hc' := h8 t' t0 t1
    rw [e2, if_neg]
    unfold mrow
    by_cases q : t' = t
    · subst q; omega
    · omega
  have same0 : ∀ t' r, 0 ≤ t' → t' < 6 → 0 ≤ r → r < S 214 (6 * s + t') → S' 215 (mrow s t' r) = S 215 (mrow s t' r) := fun t' r t0 t1 r0 r1 => by have := same t' r t0 t1 r0 r1 0 (by decide) (by decide); rwa [Int.add_zero] at this
  have cases' : ∀ t' r, 0 ≤ t' → t' < 6 → 0 ≤ r → r < S' 214 (6 * s + t') → (t' = t ∧ r = S 214 (6 * s + t)) ∨ r < S 214 (6 * s + t') := fun t' r t0 t1 r0 r1 => by
    rw [e1] at r1
    split at r1
    · rename_i q
      have : t' = t := by omega
      subst this
      by_cases hr : r = S 214 (6 * s + t')
      · exact Or.inl ⟨rfl, hr⟩
      · exact Or.inr (by omega)
    · exact Or.inr r1
  refine ⟨fun t' t0 t1 => ?_, fun t' r q t0 t1 r0 r1 q0 q1 hrq => ?_, fun t' r t0 t1 r0 r1 => ?_⟩
  · rw [e1]
    have := h8 t' t0 t1
    split <;> omega
  · rcases cases' t' r t0 t1 r0 r1 with ⟨z1, z2⟩ | z
    · rcases cases' t' q t0 t1 q0 q1 with ⟨w1, w2⟩ | w
      · omega
      · subst z1
        rw [z2, h00, same0 t' q t0 t1 q0 w] at hrq
        exact absurd hrq.symm (hn' q q0 w)
    · rcases cases' t' q t0 t1 q0 q1 with ⟨w1, w2⟩ | w
      · subst w1
        rw [w2, h00, same0 t' r t0 t1 r0 z] at hrq
        exact absurd hrq (hn' r r0 z)
      · rw [same0 t' r t0 t1 r0 z, same0 t' q t0 t1 q0 w] at hrq
        exact h.2.1 t' r q t0 t1 r0 z q0 w hrq
  · rcases cases' t' r t0 t1 r0 r1 with ⟨z1, z2⟩ | z
    · subst z1
      rw [z2, h00]
      exact ⟨hf, fun c c0 c1 => by rw [here c c0 c1]; exact hv c c0 c1⟩
    · rw [same0 t' r t0 t1 r0 z]
      have := h.2.2 t' r t0 t1 r0 z
      exact ⟨this.1, fun c c0 c1 => by rw [same t' r t0 t1 r0 z c c0 c1]; exact this.2 c c0 c1⟩
/-- all rows of a state pass their checks -/
def SChk (S : IT) (s : Int) : Prop := ∀ t ρ, 0 ≤ t → t < 6 → mIn S s t ρ → rowOk S t ρ
theorem rowOk_of (e2 : ∀ k, S' 202 k = S 202 k) (e3 : ∀ k, S' 203 k = S 203 k) (e4 : ∀ k, S' 204 k = S 204 k) (e5 : ∀ k, S' 205 k = S 205 k) {ρ : Rw4} : rowOk S' t ρ ↔ rowOk S t ρ := by
  unfold rowOk
  have e2 : S' 202 = S 202 := funext e2
  have e3 : S' 203 = S 203 := funext e3
  have e4 : S' 204 = S 204 := funext e4
  have e5 : S' 205 = S 205 := funext e5
  rw [e2, e3, e4, e5]
end
