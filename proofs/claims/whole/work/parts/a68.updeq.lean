/-! an update's trial in class and reference -/
section
variable {A S I I' S' : IT} {i : Nat} {s t : Int} {a : Nat}
/-- a row with a column set -/
def st4 (ρ : Rw4) (c v : Int) : Rw4 := q4 (fun x => if x = c then v else g4 ρ x) 0
theorem g4_st {ρ : Rw4} {c v x : Int} (hx : 0 ≤ x ∧ x < 4) : g4 (st4 ρ c v) x = if x = c then v else g4 ρ x := by
  unfold st4
  rw [g4_q hx, Int.zero_add]
theorem st4_1 {ρ : Rw4} {c v : Int} (hc : 1 ≤ c) : (st4 ρ c v).1 = ρ.1 := by
  show (if (0 : Int) = c then v else g4 ρ 0) = ρ.1
  rw [if_neg (by omega)]; rfl
theorem RSch.of (h : RSch I S) (e : ∀ o, o = 1032 ∨ o = 1034 ∨ o = 1035 ∨ o = 1036 ∨ o = 1037 ∨ o = 1038 ∨ o = 1040 → I' o = I o) : RSch I' S := by
  unfold RSch at *
  rw [e 1032 (Or.inl rfl), e 1034 (by simp), e 1035 (by simp), e 1036 (by simp), e 1037 (by simp), e 1038 (by simp), e 1040 (by simp)]
  exact h
theorem RSch.ofS (h : RSch I S) (e : ∀ o k, (200 < o ∧ o < 214) ∨ (o = 100 ∧ (k = 0 ∨ k = 8)) → S' o k = S o k) : RSch I S' := by
  have f : ∀ o, 200 < o ∧ o < 214 → S' o = S o := fun o h => funext (fun k => e o k (Or.inl h))
  unfold RSch at *
  rw [f 201 (by decide), f 202 (by decide), f 203 (by decide), f 204 (by decide), f 205 (by decide), f 206 (by decide), f 207 (by decide), f 209 (by decide), f 210 (by decide), f 211 (by decide), f 212 (by decide), f 213 (by decide), e 100 0 (by simp), e 100 8 (by simp)]
  exact h
theorem SSch.of (h : SSch S) (e : ∀ o k, (200 < o ∧ o < 214) ∨ (o = 100 ∧ (k = 0 ∨ k = 8)) → S' o k = S o k) : SSch S' := by
  have f : ∀ o, 200 < o ∧ o < 214 → S' o = S o := fun o h => funext (fun k => e o k (Or.inl h))
  unfold SSch at *
  rw [f 201 (by decide), f 202 (by decide), f 203 (by decide), f 206 (by decide), f 211 (by decide), e 100 0 (by simp), e 100 8 (by simp)]
  exact h
theorem cIn_upd {p c v : Int} (hW : RWc I a) (hp : t * 8 ≤ p ∧ p < t * 8 + 8) (ht : 0 ≤ t ∧ t < 6) (h0 : I a (p * 4) ≠ -2147483648) (hc : 1 ≤ c ∧ c < 4) (e : ∀ z, 0 ≤ z → z < 192 → I' a z = if z = p * 4 + c then v else I a z) : ∀ t' ρ', 0 ≤ t' → t' < 6 → (cIn I' a t' ρ' ↔ ∃ ρ, cIn I a t' ρ ∧ ρ' = if t' = t ∧ ρ.1 = I a (p * 4) then st4 ρ c v else ρ) := by
  intro t' ρ' t0 t1
  have same : ∀ q, 0 ≤ q → q < 48 → q ≠ p → ∀ x, 0 ≤ x → x < 4 → I' a (q * 4 + x) = I a (q * 4 + x) := fun q q0 q1 hq x c0 c1 => by rw [e _ (by omega) (by omega), if_neg (by omega)]
  have key : ∀ q, 0 ≤ q → q < 48 → I' a (q * 4) = I a (q * 4) := fun q q0 q1 => by rw [e _ (by omega) (by omega), if_neg (by omega)]
  have here : q4 (I' a) (p * 4) = st4 (q4 (I a) (p * 4)) c v := r4_ext (fun x x0 x1 => by
    rw [g4_st ⟨x0, x1⟩, g4_q ⟨x0, x1⟩, g4_q ⟨x0, x1⟩, e _ (by omega) (by omega)]
    by_cases q : x = c
    · rw [if_pos (by omega), if_pos q]
    · rw [if_neg (by omega), if_neg q])
  unfold cIn
  constructor
  · rintro ⟨q, q0, q1, q2, rfl⟩
    rw [key q (by omega) (by omega)] at q2
    refine ⟨q4 (I a) (q * 4), ⟨q, q0, q1, q2, rfl⟩, ?_⟩
    by_cases hq : q = p
    · rw [if_pos ⟨by omega, by rw [hq]⟩, hq]
      exact here
    · rw [if_neg]
      · exact q4_of (fun x x0 x1 => same q (by omega) (by omega) hq x x0 x1)
      · rintro ⟨z1, z2⟩
        subst z1
        exact hq (hW.1 t' q p t0 t1 q0 q1 hp.1 hp.2 q2 z2)
  · rintro ⟨ρ, ⟨q, q0, q1, q2, rfl⟩, e2⟩
    refine ⟨q, q0, q1, by rw [key q (by omega) (by omega)]; exact q2, e2.trans ?_⟩
    by_cases hq : q = p
    · rw [if_pos ⟨by omega, by rw [hq]⟩, hq]
      exact here.symm
    · rw [if_neg]
      · exact q4_of (fun x x0 x1 => (same q (by omega) (by omega) hq x x0 x1).symm)
      · rintro ⟨z1, z2⟩
        subst z1
        exact hq (hW.1 t' q p t0 t1 q0 q1 hp.1 hp.2 q2 z2)
theorem RWc.upd {p c v : Int} (hW : RWc I a) (hp : 0 ≤ p ∧ p < 48) (h0 : I a (p * 4) ≠ -2147483648) (hc : 1 ≤ c ∧ c < 4) (hv : okV v) (e : ∀ z, 0 ≤ z → z < 192 → I' a z = if z = p * 4 + c then v else I a z) : RWc I' a := by
  have key : ∀ q, 0 ≤ q → q < 48 → I' a (q * 4) = I a (q * 4) := fun q q0 q1 => by rw [e _ (by omega) (by omega), if_neg (by omega)]
  obtain ⟨h1, h2, h3⟩ := hW
  refine ⟨fun t' x y t0 t1 x0 x1 y0 y1 hx hxy => ?_, fun x c' x0 x1 hx c0 c1 => ?_, fun z z0 z1 => ?_⟩
  · rw [key x (by omega) (by omega)] at hx hxy
    rw [key y (by omega) (by omega)] at hxy
    exact h1 t' x y t0 t1 x0 x1 y0 y1 hx hxy
  · rw [key x x0 x1] at hx
    rw [e _ (by omega) (by omega), if_neg]
    · exact h2 x c' x0 x1 hx c0 c1
    · intro q
      have : x = p := by omega
      exact h0 (this ▸ hx)
  · rw [e z z0 z1]
    split
    · exact hv
    · exact h3 z z0 z1
theorem mIn_upd {r c v : Int} (hW : RWm S s) (hr : 0 ≤ r ∧ r < S 214 (6 * s + t)) (ht : 0 ≤ t ∧ t < 6) (hc : 1 ≤ c ∧ c < 4) (e1 : ∀ k, S' 214 k = S 214 k) (e : ∀ z, S' 215 z = if z = mrow s t r + c then v else S 215 z) : ∀ t' ρ', 0 ≤ t' → t' < 6 → (mIn S' s t' ρ' ↔ ∃ ρ, mIn S s t' ρ ∧ ρ' = if t' = t ∧ ρ.1 = S 215 (mrow s t r) then st4 ρ c v else ρ) := by
  intro t' ρ' t0 t1
  have h8 := hW.1 t ht.1 ht.2
  have same : ∀ q, 0 ≤ q → q < S 214 (6 * s + t') → ¬ (t' = t ∧ q = r) → ∀ x, 0 ≤ x → x < 4 → S' 215 (mrow s t' q + x) = S 215 (mrow s t' q + x) := fun q q0 q1 hq x c0 c1 => by
    have := hW.1 t' t0 t1
    rw [e, if_neg]
    intro w
    unfold mrow at w
    omega
  have here : q4 (S' 215) (mrow s t r) = st4 (q4 (S 215) (mrow s t r)) c v := r4_ext (fun x x0 x1 => by
    rw [g4_st ⟨x0, x1⟩, g4_q ⟨x0, x1⟩, g4_q ⟨x0, x1⟩, e]
    by_cases q : x = c
    · rw [if_pos (by omega), if_pos q]
    · rw [if_neg (by omega), if_neg q])
  unfold mIn
  rw [e1]
  constructor
  · rintro ⟨q, q0, q1, rfl⟩
    refine ⟨q4 (S 215) (mrow s t' q), ⟨q, q0, q1, rfl⟩, ?_⟩
    by_cases hq : t' = t ∧ q = r
    · obtain ⟨rfl, rfl⟩ := hq
      rw [if_pos ⟨rfl, rfl⟩]
      exact here
    · rw [if_neg]
      · exact q4_of (fun x x0 x1 => same q q0 q1 hq x x0 x1)
      · rintro ⟨z1, z2⟩
        subst z1
        exact hq ⟨rfl, hW.2.1 t' q r t0 t1 q0 q1 hr.1 hr.2 z2⟩
  · rintro ⟨ρ, ⟨q, q0, q1, rfl⟩, e2⟩
    refine ⟨q, q0, q1, e2.trans ?_⟩
    by_cases hq : t' = t ∧ q = r
    · obtain ⟨rfl, rfl⟩ := hq
      rw [if_pos ⟨rfl, rfl⟩]
      exact here.symm
    · rw [if_neg]
      · exact q4_of (fun x x0 x1 => (same q q0 q1 hq x x0 x1).symm)
      · rintro ⟨z1, z2⟩
        subst z1
        exact hq ⟨rfl, hW.2.1 t' q r t0 t1 q0 q1 hr.1 hr.2 z2⟩
theorem RWm.upd {r c v : Int} (hW : RWm S s) (hr : 0 ≤ r ∧ r < S 214 (6 * s + t)) (ht : 0 ≤ t ∧ t < 6) (hc : 1 ≤ c ∧ c < 4) (hv : okV v) (e1 : ∀ k, S' 214 k = S 214 k) (e : ∀ z, S' 215 z = if z = mrow s t r + c then v else S 215 z) : RWm S' s := by
  have h8 := hW.1 t ht.1 ht.2
  have key : ∀ t' q, 0 ≤ t' → t' < 6 → 0 ≤ q → q < S 214 (6 * s + t') → S' 215 (mrow s t' q) = S 215 (mrow s t' q) := fun t' q t0 t1 q0 q1 => by
    have := hW.1 t' t0 t1
    rw [e, if_neg]
    intro w
    unfold mrow at w
    omega
  refine ⟨fun t t0 t1 => by rw [e1]; exact hW.1 t t0 t1, fun t' x q t0 t1 x0 x1 q0 q1 hq => ?_, fun t' x t0 t1 x0 x1 => ?_⟩
  · rw [e1] at x1 q1
    rw [key t' x t0 t1 x0 x1, key t' q t0 t1 q0 q1] at hq
    exact hW.2.1 t' x q t0 t1 x0 x1 q0 q1 hq
  · rw [e1] at x1
    have := hW.2.2 t' x t0 t1 x0 x1
    rw [key t' x t0 t1 x0 x1]
    refine ⟨this.1, fun c' c0 c1 => ?_⟩
    rw [e]
    split
    · exact hv
    · exact this.2 c' c0 c1
def UpH (A S : IT) (i : Nat) : Prop := (A (tX i) 9 = S 229 i ∧ A (tX i) 10 = S 230 i ∧ A (tX i) 11 = S 231 i) ∧ (1 ≤ S 230 i ∧ S 230 i < S 201 (S 228 i)) ∧ okV (S 231 i)
/-- the place that the role sees -/
theorem seeP_eq (h : TrH A S i s) {key : Int} (h9 : A (tX i) 9 = key) : (seeP A i ≠ -1 ↔ mfind S s (S 228 i) key ≠ -1 ∧ mSeen S (S 220 i) s (S 228 i) (mfind S s (S 228 i) key)) ∧ (seeP A i ≠ -1 → seeP A i = rwFind A 1129 (S 228 i) key ∧ (S 228 i * 8 ≤ seeP A i ∧ seeP A i < S 228 i * 8 + 8 ∧ A 1129 (seeP A i * 4) = key) ∧ key ≠ -2147483648 ∧ q4 (A 1129) (seeP A i * 4) = q4 (S 215) (mrow s (S 228 i) (mfind S s (S 228 i) key)) ∧ 0 ≤ mfind S s (S 228 i) key ∧ mfind S s (S 228 i) key < S 214 (6 * s + S 228 i) ∧ S 215 (mrow s (S 228 i) (mfind S s (S 228 i) key)) = key) := by
  have t6 := h.t6
  obtain ⟨⟨hR, hS⟩, ⟨hE, hW⟩, ⟨hE2, hW2⟩, ⟨hm, hk⟩, ⟨h1, h7, h8⟩, ht⟩ := h
  have fe := find_eq (y := key) hE hm t6
  by_cases q : rwFind A 1129 (S 228 i) key = -1
  · have e : seeP A i = -1 := by unfold seeP; rw [h8, h9]; exact if_pos (Or.inl q)
    rw [e]
    exact ⟨⟨fun z => absurd rfl z, fun z => absurd (fe.mp q) z.1⟩, fun z => absurd rfl z⟩
  · have fr := find_row hE hW hm t6 q
    have q' : mfind S s (S 228 i) key ≠ -1 := fun z => q (fe.mpr z)
    have se := see_eq hR hS (p := 1129) (o := A (tX i) 1) (t := S 228 i) (z := rwFind A 1129 (S 228 i) key * 4)
    rw [fr, ← mseen_eq hS, h1] at se
    by_cases w : scSee A 1032 1040 1129 (A (tX i) 1) (S 228 i) (rwFind A 1129 (S 228 i) key * 4) = 1
    · have e : seeP A i = rwFind A 1129 (S 228 i) key := by unfold seeP; rw [h8, h9]; exact if_neg (fun z => z.elim q (fun z => z w))
      rw [h1] at w
      rw [e]
      refine ⟨⟨fun _ => ⟨q', se.mp w⟩, fun _ => q⟩, fun _ => ⟨rfl, (rwFind_rg A 1129 (S 228 i) key).resolve_left q, fun z => q (by unfold rwFind; rw [if_pos z]), fr, ?_⟩⟩
      exact (mfnd_rg (hm.1 _ t6.1 t6.2).1).resolve_left q'
    · have e : seeP A i = -1 := by unfold seeP; rw [h8, h9]; exact if_pos (Or.inr w)
      rw [h1] at w
      rw [e]
      exact ⟨⟨fun z => absurd rfl z, fun z => absurd (se.mpr z.2) w⟩, fun z => absurd rfl z⟩
theorem upd_ok (h : TrH A S i s) (hu : UpH A S i) : updOk A i ↔ (mfind S s (S 228 i) (S 229 i) ≠ -1 ∧ mSeen S (S 220 i) s (S 228 i) (mfind S s (S 228 i) (S 229 i)) ∧ mCheckOk S (S 228 i) (S 230 i) (S 231 i) ∧ mRefOk S s (S 228 i) (S 230 i) (S 231 i)) := by
  have t6 := h.t6
  have hsp := seeP_eq h hu.1.1
  obtain ⟨⟨hR, hS⟩, ⟨hE, hW⟩, ⟨hE2, hW2⟩, ⟨hm, hk⟩, ⟨h1, h7, h8⟩, ht⟩ := h
  obtain ⟨⟨g9, g10, g11⟩, hc, hv⟩ := hu
  have w := hS.2.1 (S 228 i) ht.1 ht.2
  unfold updOk
  rw [g10, g11, h8, frC_eq hR hS hE2 hm h8 t6 ⟨by omega, by omega⟩]
  by_cases q : seeP A i = -1
  · have := mt hsp.1.mpr (fun z => z q)
    constructor
    · rintro ⟨a, b, c⟩; exact absurd q b
    · rintro ⟨a, b, c⟩; exact absurd ⟨a, b⟩ this
  · have q1 := hsp.1.mp q
    obtain ⟨p1, ⟨p2, p3, p4⟩, p5, p6, p7, p8, p9⟩ := hsp.2 q
    have hR' : RSch (up2 A 1129 (seeP A i * 4 + S 230 i) (S 231 i)) S := hR.of (fun o ho => funext (fun z => up2_o _ _ _ _ (by omega)))
    rw [chk_eq hR' hS t6]
    have row' : q4 (up2 A 1129 (seeP A i * 4 + S 230 i) (S 231 i) 1129) (seeP A i * 4) = st4 (q4 (A 1129) (seeP A i * 4)) (S 230 i) (S 231 i) := r4_ext (fun x x0 x1 => by
      rw [g4_st ⟨x0, x1⟩, g4_q ⟨x0, x1⟩, g4_q ⟨x0, x1⟩]
      by_cases z : x = S 230 i
      · rw [if_pos z, z, up2_eq]
      · rw [if_neg z, up2_k _ _ _ _ (by omega)])
    rw [row', p6]
    have old := hk (S 228 i) _ t6.1 t6.2 ⟨_, p7, p8, rfl⟩
    have key : rowOk S (S 228 i) (st4 (q4 (S 215) (mrow s (S 228 i) (mfind S s (S 228 i) (S 229 i)))) (S 230 i) (S 231 i)) ↔ mCheckOk S (S 228 i) (S 230 i) (S 231 i) := by
      unfold rowOk mCheckOk
      constructor
      · intro z j j0 j1 e
        have cc := hS.2.2.2.2.1 (S 228 i) (j - 4 * S 228 i) t6.1 t6.2 (by omega) (by omega)
        have := z (j - 4 * S 228 i) (by omega) (by omega)
        rw [show 4 * S 228 i + (j - 4 * S 228 i) = j by omega] at this cc
        rw [g4_st ⟨cc.1, by omega⟩, if_pos e] at this
        exact this
      · intro z j j0 j1
        have cc := hS.2.2.2.2.1 (S 228 i) j t6.1 t6.2 j0 j1
        rw [g4_st ⟨cc.1, by omega⟩]
        by_cases e : S 203 (4 * S 228 i + j) = S 230 i
        · rw [if_pos e]
          exact z (4 * S 228 i + j) (by omega) (by omega) e
        · rw [if_neg e]
          exact old j j0 j1
    rw [key]
    exact ⟨fun ⟨a, b, c⟩ => ⟨q1.1, q1.2, c, a⟩, fun ⟨a, b, c, d⟩ => ⟨d, q, c⟩⟩
def UpdE (S : IT) (i : Nat) (s : Int) (S2 : IT) : Prop := (∀ k, S2 214 k = S 214 k) ∧ ∀ z, S2 215 z = if z = mrow s (S 228 i) (mfind S s (S 228 i) (S 229 i)) + S 230 i then S 231 i else S 215 z
theorem upd_rw {T S2 : IT} (h : TrH A S i s) (hu : UpH A S i) (hok : updOk A i) (hT : updRw A i T) (h2 : UpdE S i s S2) (e2 : ∀ o k, o = 202 ∨ o = 203 ∨ o = 204 ∨ o = 205 → S2 o k = S o k) : RowEq T 1129 S2 s ∧ RWc T 1129 ∧ RWm S2 s ∧ SChk S2 s := by
  have t6 := h.t6
  have hok' := (upd_ok h hu).mp hok
  have hsp := seeP_eq h hu.1.1
  obtain ⟨⟨hR, hS⟩, ⟨hE, hW⟩, ⟨hE2, hW2⟩, ⟨hm, hk⟩, ⟨h1, h7, h8⟩, ht⟩ := h
  obtain ⟨⟨g9, g10, g11⟩, hc, hv⟩ := hu
  have w := hS.2.1 (S 228 i) ht.1 ht.2
  obtain ⟨p1, ⟨p2, p3, p4⟩, p5, p6, p7, p8, p9⟩ := hsp.2 hok.2.1
  have eT : ∀ z, 0 ≤ z → z < 192 → T 1129 z = if z = seeP A i * 4 + S 230 i then S 231 i else A 1129 z := fun z _ _ => by
    rw [hT.1, g10, g11]
    by_cases q : z = seeP A i * 4 + S 230 i
    · rw [if_pos q, q, up2_eq]
    · rw [if_neg q, up2_k _ _ _ _ q]
  have nk : A 1129 (seeP A i * 4) ≠ -2147483648 := by rw [p4]; exact p5
  have c1 := cIn_upd (I := A) (I' := T) (a := 1129) hW ⟨p2, p3⟩ t6 nk ⟨hc.1, by omega⟩ eT
  have r1 := RWc.upd (I := A) (I' := T) (a := 1129) hW ⟨by omega, by omega⟩ nk ⟨hc.1, by omega⟩ hv eT
  have m1 := mIn_upd (S := S) (S' := S2) hm ⟨p7, p8⟩ t6 ⟨hc.1, by omega⟩ h2.1 h2.2
  have r2 := RWm.upd (S := S) (S' := S2) hm ⟨p7, p8⟩ t6 ⟨hc.1, by omega⟩ hv h2.1 h2.2
  rw [p4] at c1
  rw [p9] at m1
  refine ⟨fun t ρ t0 t1 => ?_, r1, r2, fun t ρ t0 t1 hρ => ?_⟩
  · rw [c1 t ρ t0 t1, m1 t ρ t0 t1]
    exact ⟨fun ⟨σ, a, b⟩ => ⟨σ, (hE t σ t0 t1).mp a, b⟩, fun ⟨σ, a, b⟩ => ⟨σ, (hE t σ t0 t1).mpr a, b⟩⟩
  · rw [rowOk_of (S := S) (fun k => e2 202 k (Or.inl rfl)) (fun k => e2 203 k (Or.inr (Or.inl rfl))) (fun k => e2 204 k (Or.inr (Or.inr (Or.inl rfl)))) (fun k => e2 205 k (Or.inr (Or.inr (Or.inr rfl))))]
    obtain ⟨σ, q1, q2⟩ := (m1 t ρ t0 t1).mp hρ
    have old := hk t σ t0 t1 q1
    split at q2
    · rename_i z
      obtain ⟨z1, z2⟩ := z
      subst z1
      rw [q2]
      intro j j0 j1
      have cc := hS.2.2.2.2.1 (S 228 i) j t6.1 t6.2 j0 j1
      rw [g4_st ⟨cc.1, by omega⟩]
      by_cases e : S 203 (4 * S 228 i + j) = S 230 i
      · rw [if_pos e]
        exact hok'.2.2.1 (4 * S 228 i + j) (by omega) (by omega) e
      · rw [if_neg e]
        exact old j j0 j1
    · rw [q2]; exact old
end
