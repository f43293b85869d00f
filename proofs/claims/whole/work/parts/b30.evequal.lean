/-! class and reference evaluate alike -/
section
def StkP : STK → STK → Prop
  | [], [] => True
  | z :: a, y :: b => (z.1 = y.1 ∧ z.2.Perm y.2) ∧ StkP a b
  | [], _ :: _ => False
  | _ :: _, [] => False
theorem StkP.len : ∀ {a b : STK}, StkP a b → a.length = b.length := by
  intro a
  induction a with
  | nil => intro b h; cases b with | nil => rfl | cons y b => exact h.elim
  | cons z a ih =>
    intro b h
    cases b with
    | nil => exact h.elim
    | cons y b => exact congrArg (· + 1) (ih h.2)
theorem StkP.ev {b : Int} : ∀ {s t : STK} {ws : WST}, StkP s t → EvS b t ws → EvS b s ws := by
  intro s
  induction s with
  | nil => intro t ws h g; cases t with | nil => exact g | cons y t => exact h.elim
  | cons z s ih =>
    intro t ws h g
    cases t with
    | nil => exact h.elim
    | cons y t =>
      cases ws with
      | nil => exact g
      | cons e ws =>
        obtain ⟨⟨h1, h2⟩, h3⟩ := h
        obtain ⟨⟨g1, g2, g3, g4⟩, g5⟩ := g
        exact ⟨⟨h1.trans g1, fun r hr => (g2 r (h2.mem_iff.mp hr)).trans h1.symm, by rw [h2.length_eq]; exact g3, by rw [tw_perm h2]; exact g4⟩, ih h3 g5⟩
theorem StkP.one {s : STK} {y : Nat × List (List Int)} {t : STK} (h : StkP s (y :: t)) : ∃ z s', s = z :: s' ∧ (z.1 = y.1 ∧ z.2.Perm y.2) ∧ StkP s' t := by
  cases s with
  | nil => exact h.elim
  | cons z s' => exact ⟨z, s', rfl, h.1, h.2⟩
theorem groupL_0 {A C C' : Int} {L : List (List Int)} : groupL 0 A C L = groupL 0 A C' L := by
  have e : gStep 0 A C = gStep 0 A C' := funext (fun acc => funext (fun r => rfl))
  unfold groupL
  rw [e]
/-- one operator; the third number of a COUNT doesn't count -/
theorem StkP.step {S : IT} {b op A B C C' nt : Int} {st st' : STK} {ws : WST} {sc sc' : Int → Nat × List (List Int)} (hb : 0 ≤ b ∧ b ≤ 12) (h : StkP st st') (g : EvS b st' ws) (h3 : wsZ ws ≤ 3) (hv : opV S op A B C ws) (hC : ¬ (op = 6 ∧ B = 0) → C' = C)
    (hsc : op = 0 → (sc A).1 = (sc' A).1 ∧ (sc A).2.Perm (sc' A).2) : StkP (ev1 sc op A B C' nt st) (ev1 sc' op A B C nt st') := by
  obtain ⟨v0, v1, v2, v4, v5, v6, v7⟩ := hv
  by_cases e0 : op = 0
  · rw [ev1_0 e0, ev1_0 e0]
    exact ⟨hsc e0, h⟩
  · by_cases e3 : op ≤ 3
    · obtain ⟨e, rest, rfl, -⟩ := v2 e0 e3
      obtain ⟨y, t, rfl, -, -⟩ := g.one
      obtain ⟨z, s, rfl, ⟨q1, q2⟩, q3⟩ := h.one
      rw [hC (by omega), ev1_f e0 e3, ev1_f e0 e3]
      exact ⟨⟨q1, flt_perm q2⟩, q3⟩
    · by_cases e4 : op = 4
      · obtain ⟨e, d, rest, rfl, -⟩ := v4 e4
        obtain ⟨y, t, rfl, -, g2⟩ := g.one
        obtain ⟨y2, t2, rfl, -, -⟩ := g2.one
        obtain ⟨z, s, rfl, ⟨q1, q2⟩, q3⟩ := h.one
        obtain ⟨z2, s2, rfl, ⟨p1, p2⟩, p3⟩ := q3.one
        rw [hC (by omega), ev1_j e4, ev1_j e4, p1, q1]
        exact ⟨⟨rfl, joinL_perm p2 q2⟩, p3⟩
      · by_cases e5 : op = 5
        · obtain ⟨e, rest, rfl, -⟩ := v5 e5
          obtain ⟨y, t, rfl, -, -⟩ := g.one
          obtain ⟨z, s, rfl, ⟨q1, q2⟩, q3⟩ := h.one
          rw [ev1_k e5, ev1_k e5, q1]
          exact ⟨⟨rfl, keepL_perm q2⟩, q3⟩
        · by_cases e6 : op = 6
          · obtain ⟨e, rest, rfl, -⟩ := v6 e6
            obtain ⟨y, t, rfl, ⟨g1, g2, g3, g4⟩, -⟩ := g.one
            obtain ⟨z, s, rfl, ⟨q1, q2⟩, q3⟩ := h.one
            rw [ev1_g e6, ev1_g e6]
            have w : tw z.2 < 2147483648 := by
              rw [tw_perm q2]
              have : cap e.2 ≤ 3000000 := by unfold cap; split <;> (try split) <;> omega
              omega
            have ec : groupL B A C' z.2 = groupL B A C z.2 := by
              by_cases hB : B = 0
              · rw [hB]; exact groupL_0
              · rw [hC (fun q => hB q.2)]
            refine ⟨⟨rfl, ?_⟩, q3⟩
            show (groupL B A C' z.2).Perm (groupL B A C y.2)
            rw [ec]; exact groupL_perm q2 w
          · have e7 : op = 7 := by omega
            obtain ⟨e, d, rest, rfl, -⟩ := v7 e7
            obtain ⟨y, t, rfl, -, g2⟩ := g.one
            obtain ⟨y2, t2, rfl, -, -⟩ := g2.one
            obtain ⟨z, s, rfl, ⟨q1, q2⟩, q3⟩ := h.one
            obtain ⟨z2, s2, rfl, ⟨p1, p2⟩, p3⟩ := q3.one
            rw [ev1_c (by omega) e4 e5 e6, ev1_c (by omega) e4 e5 e6]
            exact ⟨⟨q1, cmbL_perm p2 q2⟩, p3⟩
theorem StkP.fail {op A B : Int} {st st' : STK} (h : StkP st st') : ev1F op A B st ↔ ev1F op A B st' := by
  cases st with
  | nil =>
    cases st' with
    | nil => exact Iff.rfl
    | cons y t => exact h.elim
  | cons z s =>
    cases st' with
    | nil => exact h.elim
    | cons y t =>
      rw [ev1F_top, ev1F_top]
      exact ⟨fun ⟨r, hr, q⟩ => ⟨r, h.1.2.mem_iff.mp hr, q⟩, fun ⟨r, hr, q⟩ => ⟨r, h.1.2.mem_iff.mpr hr, q⟩⟩
theorem opV.okS {S : IT} {b op A B C : Int} {st : STK} {ws : WST} (hb : 0 ≤ b ∧ b ≤ 12) (h6 : S 100 0 ≤ 6) (g : EvS b st ws) (ho : wsOK ws) (h3 : wsZ ws ≤ 3) (hv : opV S op A B C ws) : okS op A B C st := by
  obtain ⟨v0, v1, v2, v4, v5, v6, v7⟩ := hv
  have capL : ∀ k, cap k ≤ 3000000 := fun k => by unfold cap; split <;> (try split) <;> omega
  refine ⟨fun e => ?_, fun e e3 => ?_, fun e => ?_, fun e => ?_, fun e => ?_, fun e e4 e5 e6 => ?_⟩
  · obtain ⟨a1, a2⟩ := v1 e
    have := ho.len
    have := g.len
    exact ⟨⟨a1.1, by omega⟩, by omega⟩
  · obtain ⟨f, rest, rfl, q⟩ := v2 e e3
    obtain ⟨y, t, rfl, ⟨g1, -⟩, -⟩ := g.one
    exact ⟨y, t, rfl, by rw [g1]; exact q⟩
  · obtain ⟨f, d, rest, rfl, q1, q2, q3⟩ := v4 e
    obtain ⟨y, t, rfl, ⟨g1, g2, g3, -⟩, g5⟩ := g.one
    obtain ⟨y2, t2, rfl, ⟨k1, k2, k3, -⟩, -⟩ := g5.one
    have s3 : f.2 + (d.2 + wsZ rest) ≤ 3 := h3
    refine ⟨y, y2, t2, rfl, fun _ => by rw [k1]; exact ho.2.1.1.2, fun q => by rw [k1, g1]; exact q1 q, ?_, by rw [k1]; exact q2, by rw [g1]; exact q3⟩
    have p1 : y2.2.length * y.2.length ≤ 8 ^ d.2 * 8 ^ f.2 := Nat.mul_le_mul k3 g3
    rw [← Nat.pow_add] at p1
    have p2 := pow8_le (s := d.2 + f.2) (by omega)
    have : ((y2.2.length * y.2.length : Nat) : Int) ≤ 512 := by omega
    rw [Int.natCast_mul] at this
    exact this
  · obtain ⟨f, rest, rfl, q1, q2⟩ := v5 e
    obtain ⟨y, t, rfl, ⟨g1, -⟩, -⟩ := g.one
    exact ⟨y, t, rfl, by omega, by rw [g1]; exact q2⟩
  · obtain ⟨f, rest, rfl, q1, q2, -⟩ := v6 e
    obtain ⟨y, t, rfl, ⟨g1, g2, g3, g4⟩, -⟩ := g.one
    refine ⟨y, t, rfl, by rw [g1]; exact q1, by rw [g1]; exact q2, groupL_rg ?_⟩
    have := capL f.2
    omega
  · obtain ⟨f, d, rest, rfl, q⟩ := v7 (by omega)
    obtain ⟨y, t, rfl, ⟨g1, -⟩, g5⟩ := g.one
    obtain ⟨y2, t2, rfl, ⟨k1, -⟩, -⟩ := g5.one
    exact ⟨y, y2, t2, rfl, by rw [k1, g1]; exact q⟩
theorem opV.okC {S : IT} {b op A B C C' W : Int} {st : STK} {ws : WST} (hb : 0 ≤ b ∧ b ≤ 12) (h6 : S 100 0 ≤ 6) (g : EvS b st ws) (ho : wsOK ws) (h3 : wsZ ws ≤ 3) (hv : opV S op A B C ws) (hC : ¬ (op = 6 ∧ B = 0) → C' = C) (hC0 : op = 6 → B = 0 → C' = 0) (hW : ∀ e r, ws1 (S 201) op A ws = e :: r → W = e.1) : okC op A B C' W st := by
  obtain ⟨v0, v1, v2, v4, v5, v6, v7⟩ := hv
  have capL : ∀ k, cap k ≤ 3000000 := fun k => by unfold cap; split <;> (try split) <;> omega
  refine ⟨fun e => ⟨(v1 e).1.1, by have := (v1 e).1.2; omega⟩, fun e => ?_, fun e => ?_, fun e => ?_⟩
  · by_cases e3 : op ≤ 3
    · have e0 : op ≠ 0 := by omega
      have e6 : ¬ (op = 6 ∧ B = 0) := by omega
      obtain ⟨f, rest, rfl, q⟩ := v2 e0 e3
      clear v0 v1 v2 v4 v5 v6 v7
      obtain ⟨y, t, rfl, ⟨g1, -⟩, -⟩ := g.one
      rw [hC e6]
      refine ⟨y, t, rfl, ⟨e, fun _ => by rw [g1]; exact q, fun _ => by omega, fun _ => by omega⟩, fun nt => ?_⟩
      have w := hW _ _ (ws1_f e0 e3)
      unfold chL
      rw [if_pos e3, w, g1]
    · by_cases e5 : op = 5
      · obtain ⟨f, rest, rfl, q1, q2⟩ := v5 e5
        obtain ⟨y, t, rfl, ⟨g1, -⟩, -⟩ := g.one
        have f10 := ho.1.1.2
        have p : (2 : Int) ^ f.1 ≤ 1024 := by
          have : (2 : Nat) ^ f.1 ≤ 2 ^ 10 := Nat.pow_le_pow_right (by decide) f10
          have e2 : ((2 ^ f.1 : Nat) : Int) = (2 : Int) ^ f.1 := by rw [Int.natCast_pow]; rfl
          omega
        refine ⟨y, t, rfl, ⟨e, fun z => by omega, fun _ => ⟨by omega, by omega⟩, fun _ => by omega⟩, fun nt => ?_⟩
        have w := hW _ _ (ws1_k e5)
        unfold chL
        rw [if_neg e3, if_pos e5, w, g1]
      · have e6 : op = 6 := by omega
        obtain ⟨f, rest, rfl, q1, q2, -⟩ := v6 e6
        obtain ⟨y, t, rfl, ⟨g1, g2, g3, g4⟩, -⟩ := g.one
        have f1 := ho.1.1.1
        refine ⟨y, t, rfl, ⟨e, fun z => by omega, fun z => by omega, fun _ => ⟨by rw [g1]; exact q1, ?_, groupL_rg (by have := capL f.2; omega)⟩⟩, fun nt => ?_⟩
        · by_cases hB : B = 0
          · rw [hC0 e6 hB, g1]; omega
          · rw [hC (fun z => hB z.2), g1]; exact q2.resolve_left hB
        · have w := hW _ _ (ws1_g e6)
          unfold chL
          rw [if_neg e3, if_neg e5, w]
  · obtain ⟨f, d, rest, rfl, q1, q2, q3⟩ := v4 e
    obtain ⟨y, t, rfl, ⟨g1, g2, g3, -⟩, g5⟩ := g.one
    obtain ⟨y2, t2, rfl, ⟨k1, k2, k3, -⟩, -⟩ := g5.one
    have s3 : f.2 + (d.2 + wsZ rest) ≤ 3 := h3
    have w1 := ho.1.2
    have w2 := ho.2.1.2
    have w := hW _ _ (ws1_j e)
    have d10 := ho.2.1.1.2
    have ej : jWid A y2.1 y.1 = (if 2 < A then d.1 else d.1 + f.1) := by
      unfold jWid
      rw [k1, g1]
      by_cases q : A ≤ 2
      · rw [if_pos q, if_neg (by omega)]
      · rw [if_neg q, if_pos (by omega)]
    rw [hC (by omega)]
    refine ⟨y, y2, t2, rfl, ⟨?_, ?_⟩, ?_, by rw [k1]; exact q2, by rw [g1]; exact q3⟩
    · rw [ej]
      split
      · exact d10
      · exact q1 (by omega)
    · rw [ej]; exact w
    · have l := joinL_len (how := A) (B := B) (C := C) (wa := y2.1) (wb := y.1) k3 g3 (pow8_2 w2) (pow8_2 w1)
      rw [← Nat.pow_add] at l
      have p2 := pow8_le (s := d.2 + f.2) (by omega)
      omega
  · obtain ⟨f, d, rest, rfl, q⟩ := v7 e
    obtain ⟨y, t, rfl, ⟨g1, g2, g3, -⟩, g5⟩ := g.one
    obtain ⟨y2, t2, rfl, ⟨k1, k2, k3, -⟩, -⟩ := g5.one
    have s3 : f.2 + (d.2 + wsZ rest) ≤ 3 := h3
    have w1 := ho.1.2
    have w2 := ho.2.1.2
    have w := hW _ _ (ws1_c e)
    refine ⟨y, y2, t2, rfl, by rw [k1, g1]; exact q, by rw [w, g1], ?_⟩
    have a2 := pow8_2 w2
    have a1 := pow8_2 w1
    have h1 : 8 ^ d.2 * 2 ≤ 8 ^ d.2 * 8 ^ f.2 := Nat.mul_le_mul_left _ a1
    have h2 : 2 * 8 ^ f.2 ≤ 8 ^ d.2 * 8 ^ f.2 := Nat.mul_le_mul_right _ a2
    have p2 := pow8_le (s := d.2 + f.2) (by omega)
    rw [Nat.pow_add] at p2
    omega
end
