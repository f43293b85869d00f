/-! storing, as a set of rows -/
section
variable {I : IT} {i : Int} {a : Nat} {t : Int}
theorem wb_of {J : IT} {y : Int} (e : J 1069 = I 1069) : wbG J i t y ↔ wbG I i t y := by unfold wbG; rw [e]
theorem rm_at : ∀ p : Nat, p ≤ 48 → ∀ k c : Int, 0 ≤ k → k < 48 → 0 ≤ c → c < 4 → (k < p → wbG I i (k / 8) (I 1161 (k * 4)) → rmI i p I 1161 (k * 4 + c) = -2147483648) ∧ (¬ (k < p ∧ wbG I i (k / 8) (I 1161 (k * 4))) → rmI i p I 1161 (k * 4 + c) = I 1161 (k * 4 + c)) := by
  intro p
  induction p with
  | zero => intro _ k c k0 k1 c0 c1; exact ⟨fun h => by omega, fun _ => rfl⟩
  | succ p ih =>
    intro hp k c k0 k1 c0 c1
    obtain ⟨A, B⟩ := ih (by omega) k c k0 k1 c0 c1
    have ek : rmI i p I 1161 ((p : Int) * 4) = I 1161 ((p : Int) * 4) := by
      have := (ih (by omega) p 0 (by omega) (by omega) (by decide) (by decide)).2 (fun z => by omega)
      rwa [Int.add_zero] at this
    have ew : wbG (rmI i p I) i ((p : Int).tdiv 8) (rmI i p I 1161 ((p : Int) * 4)) ↔ wbG I i ((p : Int) / 8) (I 1161 ((p : Int) * 4)) := by
      rw [wb_of (rmI_o p 1069 (by decide)), ek, (td8 (p := p) (by omega)).1]
    by_cases h : wbG I i ((p : Int) / 8) (I 1161 ((p : Int) * 4))
    · rw [← rmI_y (ew.mpr h)]
      by_cases e : k = p
      · subst e
        have : filI (rmI i p I) 1161 ((p : Int) * 4) ((p : Int) * 4 + 4) (-2147483648) 1161 ((p : Int) * 4 + c) = -2147483648 := if_pos ⟨rfl, by omega, by omega⟩
        rw [this]
        exact ⟨fun _ _ => rfl, fun z => absurd ⟨by omega, h⟩ z⟩
      · have : filI (rmI i p I) 1161 ((p : Int) * 4) ((p : Int) * 4 + 4) (-2147483648) 1161 (k * 4 + c) = rmI i p I 1161 (k * 4 + c) := if_neg (fun z => by omega)
        rw [this]
        exact ⟨fun x y => A (by omega) y, fun z => B (fun w => z ⟨by omega, w.2⟩)⟩
    · rw [← rmI_n (fun z => h (ew.mp z))]
      refine ⟨fun x y => A (Classical.byContradiction (fun w => ?_)) y, fun z => B (fun w => z ⟨by omega, w.2⟩)⟩
      have : k = p := by omega
      rw [this] at y
      exact h y
theorem rm_set (hW : RWc I 1161) : (∀ t ρ, 0 ≤ t → t < 6 → (cIn (rmI i 48 I) 1161 t ρ ↔ cIn I 1161 t ρ ∧ ¬ wbG I i t ρ.1)) ∧ RWc (rmI i 48 I) 1161 := by
  have at' := fun k c k0 k1 c0 c1 => rm_at (I := I) (i := i) 48 (Nat.le_refl _) k c k0 k1 c0 c1
  have key : ∀ k, 0 ≤ k → k < 48 → (rmI i 48 I 1161 (k * 4) = -2147483648 ∧ (wbG I i (k / 8) (I 1161 (k * 4)) ∨ I 1161 (k * 4) = -2147483648)) ∨ (¬ wbG I i (k / 8) (I 1161 (k * 4)) ∧ rmI i 48 I 1161 (k * 4) = I 1161 (k * 4)) := fun k k0 k1 => by
    obtain ⟨A, B⟩ := at' k 0 k0 k1 (by decide) (by decide)
    rw [Int.add_zero] at A B
    by_cases h : wbG I i (k / 8) (I 1161 (k * 4))
    · exact Or.inl ⟨A (by omega) h, Or.inl h⟩
    · exact Or.inr ⟨h, B (fun z => h z.2)⟩
  refine ⟨fun t ρ t0 t1 => ?_, fun t p r t0 t1 p0 p1 r0 r1 hp he => ?_, fun p c p0 p1 hp c0 c1 => ?_, fun z z0 z1 => ?_⟩
  · constructor
    · rintro ⟨p, p0, p1, p2, rfl⟩
      rcases key p (by omega) (by omega) with w | ⟨w1, w2⟩
      · exact absurd w.1 p2
      · have e : q4 (rmI i 48 I 1161) (p * 4) = q4 (I 1161) (p * 4) := q4_of (fun c c0 c1 => (at' p c (by omega) (by omega) c0 c1).2 (fun z => w1 z.2))
        have pt : p / 8 = t := by omega
        rw [pt] at w1
        refine ⟨⟨p, p0, p1, by rw [← w2]; exact p2, e⟩, ?_⟩
        show ¬ wbG I i t (rmI i 48 I 1161 (p * 4))
        rw [w2]; exact w1
    · rintro ⟨⟨p, p0, p1, p2, rfl⟩, hw⟩
      have pt : p / 8 = t := by omega
      have hw' : ¬ wbG I i (p / 8) (I 1161 (p * 4)) := by rw [pt]; exact hw
      have e : q4 (rmI i 48 I 1161) (p * 4) = q4 (I 1161) (p * 4) := q4_of (fun c c0 c1 => (at' p c (by omega) (by omega) c0 c1).2 (fun z => hw' z.2))
      exact ⟨p, p0, p1, by rw [show rmI i 48 I 1161 (p * 4) = I 1161 (p * 4) from congrArg Prod.fst e]; exact p2, e.symm⟩
  · rcases key p (by omega) (by omega) with w | ⟨w1, w2⟩
    · exact absurd w.1 hp
    · rcases key r (by omega) (by omega) with v | ⟨v1, v2⟩
      · exact absurd (he.trans v.1) hp
      · rw [w2] at hp he
        rw [v2] at he
        exact hW.1 t p r t0 t1 p0 p1 r0 r1 hp he
  · obtain ⟨A, B⟩ := at' p c p0 p1 c0 c1
    by_cases h : wbG I i (p / 8) (I 1161 (p * 4))
    · exact A (by omega) h
    · rw [B (fun z => h z.2)]
      rcases key p p0 p1 with w | ⟨-, w2⟩
      · exact hW.2.1 p c p0 p1 (w.2.resolve_left h) c0 c1
      · exact hW.2.1 p c p0 p1 (w2.symm.trans hp) c0 c1
  · obtain ⟨A, B⟩ := at' (z / 4) (z % 4) (by omega) (by omega) (by omega) (by omega)
    rw [show z / 4 * 4 + z % 4 = z by omega] at A B
    by_cases h : wbG I i (z / 4 / 8) (I 1161 (z / 4 * 4))
    · rw [A (by omega) h]; exact Or.inl rfl
    · rw [B (fun w => h w.2)]; exact hW.2.2 z z0 z1
/-- what is stored once the first places have been gone over -/
def PuI (I : IT) (i : Int) (a : Nat) (p : Nat) (U : IT) : Prop := (∀ t ρ, 0 ≤ t → t < 6 → (cIn U 1161 t ρ ↔ (cIn I 1161 t ρ ∧ ¬ wbG I i t ρ.1) ∨ (∃ k : Int, 0 ≤ k ∧ k < p ∧ (t * 8 ≤ k ∧ k < t * 8 + 8) ∧ ρ = q4 (I a) (k * 4) ∧ wbG I i t ρ.1))) ∧ RWc U 1161
def FinC (I : IT) (i : Int) (a : Nat) (t : Int) (ρ : Rw4) : Prop := (cIn I 1161 t ρ ∧ ¬ wbG I i t ρ.1) ∨ (cIn I a t ρ ∧ wbG I i t ρ.1)
theorem pu_set (ha : a ≠ 1161 ∧ a ≠ 1069) (hW : RWc I 1161) (hA : RWc I a) (hfit : ∀ t, 0 ≤ t → t < 6 → ∃ L : List Rw4, L.length ≤ 8 ∧ ∀ ρ, FinC I i a t ρ → ρ ∈ L) : ∀ p : Nat, p ≤ 48 → PuI I i a p (puI i a p (rmI i 48 I)) := by
  obtain ⟨r1, r2⟩ := rm_set (i := i) hW
  have nn : ∀ t y, wbG I i t y → y ≠ -2147483648 := fun t y z e => z.1 (fpO_no (by rw [e]; decide))
  intro p
  induction p with
  | zero =>
    intro _
    refine ⟨fun t ρ t0 t1 => ?_, r2⟩
    have := r1 t ρ t0 t1
    exact this.trans ⟨Or.inl, fun z => z.elim id (fun ⟨k, k0, k1, _⟩ => by omega)⟩
  | succ p ih =>
    intro hp
    obtain ⟨C, W⟩ := ih (by omega)
    obtain ⟨t1, t2, t3⟩ := td8 (p := p) (by omega)
    have eo := fun o (h : o ≠ 1161) => (puI_o (I := rmI i 48 I) (i := i) (a := a) p o h).trans (rmI_o (I := I) (i := i) 48 o h)
    have ea := eo a ha.1
    have ew : wbG (puI i a p (rmI i 48 I)) i ((p : Int).tdiv 8) (puI i a p (rmI i 48 I) a ((p : Int) * 4)) ↔ wbG I i ((p : Int) / 8) (I a ((p : Int) * 4)) := by
      rw [wb_of (eo 1069 (by decide)), ea, t1]
    have fr := rwF_rg2 (I := puI i a p (rmI i 48 I)) (a := 1161) (t := (p : Int).tdiv 8) (y := -2147483648)
    rw [t1] at t2 t3 fr
    by_cases h : wbG I i ((p : Int) / 8) (I a ((p : Int) * 4))
    · have h' := ew.mpr h
      have k0 := nn _ _ h
      have own : cIn I a ((p : Int) / 8) (q4 (I a) ((p : Int) * 4)) := ⟨p, by omega, by omega, k0, rfl⟩
      -- no such key yet
      have new : ∀ q, (p : Int) / 8 * 8 ≤ q → q < (p : Int) / 8 * 8 + 8 → puI i a p (rmI i 48 I) 1161 (q * 4) ≠ I a ((p : Int) * 4) := fun q q0 q1 e => by
        have cq : cIn (puI i a p (rmI i 48 I)) 1161 ((p : Int) / 8) (q4 (puI i a p (rmI i 48 I) 1161) (q * 4)) := ⟨q, q0, q1, by rw [e]; exact k0, rfl⟩
        rcases (C _ _ t2 t3).mp cq with ⟨-, w⟩ | ⟨k, k1, k2, k3, k4, -⟩
        · exact w (by show wbG I i _ (puI i a p (rmI i 48 I) 1161 (q * 4)); rw [e]; exact h)
        · have e2 : puI i a p (rmI i 48 I) 1161 (q * 4) = I a (k * 4) := congrArg Prod.fst k4
          have := hA.1 ((p : Int) / 8) p k t2 t3 (by omega) (by omega) k3.1 k3.2 k0 (by rw [← e2, e])
          omega
      have free : rwF (puI i a p (rmI i 48 I)) 1161 ((p : Int) / 8) (-2147483648) ≠ -1 := fun hf => by
        have full : ∀ q, (p : Int) / 8 * 8 ≤ q → q < (p : Int) / 8 * 8 + 8 → puI i a p (rmI i 48 I) 1161 (q * 4) ≠ -2147483648 := fun q q0 q1 e => by
          unfold rwF at hf
          rcases fs_some (g := fun z => puI i a p (rmI i 48 I) 1161 (z * 4) = -2147483648) 8 ((p : Int) / 8 * 8) q q0 (by omega) e with w | w
          · exact w hf
          · omega
        obtain ⟨L, hL, hin⟩ := hfit _ t2 t3
        have nd : ((List.range 8).map (fun j : Nat => q4 (puI i a p (rmI i 48 I) 1161) (((p : Int) / 8 * 8 + (j : Int)) * 4))).Nodup := by
          refine nodup_map_on (fun x hx y hy e => ?_) List.nodup_range
          have x1 := List.mem_range.mp hx
          have y1 := List.mem_range.mp hy
          have := W.1 _ _ _ t2 t3 (by omega) (by omega) (by omega) (by omega) (full _ (by omega) (by omega)) (congrArg Prod.fst e)
          omega
        have nd2 : (q4 (I a) ((p : Int) * 4) :: (List.range 8).map (fun j : Nat => q4 (puI i a p (rmI i 48 I) 1161) (((p : Int) / 8 * 8 + (j : Int)) * 4))).Nodup := by
          refine List.nodup_cons.mpr ⟨fun hm => ?_, nd⟩
          obtain ⟨j, hj, e⟩ := List.mem_map.mp hm
          have j1 := List.mem_range.mp hj
          exact new _ (by omega) (by omega) (congrArg Prod.fst e)
        have := nd2.length_le_of_subset (l₂ := L) (fun ρ hρ => by
          rcases List.mem_cons.mp hρ with e | e
          · rw [e]; exact hin _ (Or.inr ⟨own, h⟩)
          · obtain ⟨j, hj, e⟩ := List.mem_map.mp e
            have j1 := List.mem_range.mp hj
            have cq : cIn (puI i a p (rmI i 48 I)) 1161 ((p : Int) / 8) ρ := ⟨(p : Int) / 8 * 8 + (j : Int), by omega, by omega, full _ (by omega) (by omega), e.symm⟩
            refine hin _ (((C _ _ t2 t3).mp cq).imp id (fun ⟨k, k1, k2, k3, k4, k5⟩ => ⟨⟨k, k3.1, k3.2, ?_, k4⟩, k5⟩))
            have : ρ.1 = I a (k * 4) := congrArg Prod.fst k4
            rw [← this]; exact nn _ _ k5)
        rw [List.length_cons, List.length_map, List.length_range] at this
        omega
      have fr' := fr.resolve_left free
      have free' : rwF (puI i a p (rmI i 48 I)) 1161 ((p : Int).tdiv 8) (-2147483648) ≠ -1 := by rw [t1]; exact free
      rw [← puI_y free' h', t1]
      generalize rwF (puI i a p (rmI i 48 I)) 1161 ((p : Int) / 8) (-2147483648) = f at *
      have e : ∀ z, 0 ≤ z → z < 192 → cpyI (puI i a p (rmI i 48 I)) a ((p : Int) * 4) 1161 (f * 4) 4 1161 z = if f * 4 ≤ z ∧ z < f * 4 + 4 then (fun c => I a ((p : Int) * 4 + c)) (z - f * 4) else puI i a p (rmI i 48 I) 1161 z := fun z z0 z1 => by
        by_cases c : f * 4 ≤ z ∧ z < f * 4 + 4
        · rw [if_pos c]
          exact (if_pos ⟨rfl, c⟩).trans (by rw [ea])
        · rw [if_neg c]
          exact if_neg (fun w => c w.2)
      have f0 : (fun c => I a ((p : Int) * 4 + c)) 0 = I a ((p : Int) * 4) := by show I a ((p : Int) * 4 + 0) = _; rw [Int.add_zero]
      have q0 : q4 (fun c => I a ((p : Int) * 4 + c)) 0 = q4 (I a) ((p : Int) * 4) := q4_of (fun c c0 c1 => by show I a ((p : Int) * 4 + (0 + c)) = _; rw [Int.zero_add])
      refine ⟨fun t ρ a0 a1 => ?_, ?_⟩
      · rw [cIn_put (f := fun c => I a ((p : Int) * 4 + c)) ⟨fr'.1, fr'.2.1⟩ ⟨t2, t3⟩ fr'.2.2 (by rw [Int.add_zero]; exact k0) e t ρ a0 a1, C t ρ a0 a1, q0]
        constructor
        · rintro ((w | ⟨k, k1, k2, k3⟩) | ⟨w1, w2⟩)
          · exact Or.inl w
          · exact Or.inr ⟨k, k1, by omega, k3⟩
          · exact Or.inr ⟨p, by omega, by omega, ⟨by omega, by omega⟩, w2, by rw [w1, w2]; exact h⟩
        · rintro (w | ⟨k, k1, k2, k3, k4, k5⟩)
          · exact Or.inl (Or.inl w)
          · by_cases c : k = p
            · rw [c] at k3 k4
              exact Or.inr ⟨by omega, k4⟩
            · exact Or.inl (Or.inr ⟨k, k1, by omega, k3, k4, k5⟩)
      · exact W.put (f := fun c => I a ((p : Int) * 4 + c)) ⟨fr'.1, fr'.2.1⟩ ⟨t2, t3⟩ (by rw [Int.add_zero]; exact k0) (fun c c0 c1 => hA.2.2 _ (by omega) (by omega)) (fun q q1 q2 => by rw [Int.add_zero]; exact new q q1 q2) e
    · rw [← puI_n (Or.inr (fun z => h (ew.mp z)))]
      refine ⟨fun t ρ a0 a1 => (C t ρ a0 a1).trans (or_congr Iff.rfl ⟨fun ⟨k, k1, k2, k3⟩ => ⟨k, k1, by omega, k3⟩, fun ⟨k, k1, k2, k3, k4, k5⟩ => ⟨k, k1, Classical.byContradiction (fun w => ?_), k3, k4, k5⟩⟩), W⟩
      have e : k = p := by omega
      rw [e] at k3 k4
      rw [k4, show t = (p : Int) / 8 by omega] at k5
      exact h k5
/-- at the end: class's stored rows -/
theorem pu_fin (ha : a ≠ 1161 ∧ a ≠ 1069) (hW : RWc I 1161) (hA : RWc I a) (hfit : ∀ t, 0 ≤ t → t < 6 → ∃ L : List Rw4, L.length ≤ 8 ∧ ∀ ρ, FinC I i a t ρ → ρ ∈ L) : (∀ t ρ, 0 ≤ t → t < 6 → (cIn (puI i a 48 (rmI i 48 I)) 1161 t ρ ↔ FinC I i a t ρ)) ∧ RWc (puI i a 48 (rmI i 48 I)) 1161 := by
  obtain ⟨C, W⟩ := pu_set ha hW hA hfit 48 (Nat.le_refl _)
  refine ⟨fun t ρ t0 t1 => (C t ρ t0 t1).trans (or_congr Iff.rfl ⟨fun ⟨k, k1, k2, k3, k4, k5⟩ => ⟨⟨k, k3.1, k3.2, ?_, k4⟩, k5⟩, fun ⟨⟨k, k1, k2, k3, k4⟩, k5⟩ => ⟨k, by omega, by omega, ⟨k1, k2⟩, k4, k5⟩⟩), W⟩
  have : ρ.1 = I a (k * 4) := congrArg Prod.fst k4
  rw [← this]
  exact fun e => k5.1 (fpO_no (by rw [e]; decide))
end
