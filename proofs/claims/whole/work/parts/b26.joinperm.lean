/-! joins, keeping, set operations: order, weight, number of rows -/
section
theorem jM_perm {how : Int} {x : List Int} {F G : List (List Int)} (h : F.Perm G) : (jM how x F).Perm (jM how x G) := by
  unfold jM
  split
  · exact List.Perm.map _ h
  · exact List.Perm.refl _
theorem jRow_perm {how B C : Int} {wb : Nat} {R R' : List (List Int)} (h : R.Perm R') (x : List Int) : (jRow how B C wb R x).Perm (jRow how B C wb R' x) := by
  have e : (flt (mt2 B C x) R).Perm (flt (mt2 B C x) R') := flt_perm h
  unfold jRow
  rw [e.length_eq]
  exact List.Perm.append_right _ (jM_perm e)
theorem flatMap_perm {f g : List Int → List (List Int)} : ∀ L : List (List Int), (∀ x ∈ L, (f x).Perm (g x)) → (L.flatMap f).Perm (L.flatMap g) := by
  intro L
  induction L with
  | nil => intro _; exact List.Perm.refl _
  | cons x L ih =>
    intro h
    rw [List.flatMap_cons, List.flatMap_cons]
    exact List.Perm.append (h x List.mem_cons_self) (ih (fun y hy => h y (List.mem_cons_of_mem _ hy)))
theorem joinL_perm {how B C : Int} {wa wb : Nat} {L L' R R' : List (List Int)} (h : L.Perm L') (g : R.Perm R') : (joinL how B C wa wb L R).Perm (joinL how B C wa wb L' R') := by
  unfold joinL jLeft jRight
  refine List.Perm.append ((flatMap_perm L (fun x _ => jRow_perm g x)).trans (List.Perm.flatMap_right _ h)) ?_
  split
  · refine List.Perm.map _ ?_
    rw [flt_ext (p := fun y => ¬ ∃ x ∈ L, mt2 B C x y) (q := fun y => ¬ ∃ x ∈ L', mt2 B C x y) (fun r _ => ⟨fun z ⟨x, hx, m⟩ => z ⟨x, h.mem_iff.mpr hx, m⟩, fun z ⟨x, hx, m⟩ => z ⟨x, h.mem_iff.mp hx, m⟩⟩)]
    exact flt_perm g
  · exact List.Perm.refl _
theorem keepL_perm {s : Int} {w : Nat} {L L' : List (List Int)} (h : L.Perm L') : (keepL s w L).Perm (keepL s w L') := List.Perm.map _ h
/-- set operations -/
theorem mem_once {p : List Int → Prop} : ∀ (L acc : List (List Int)) (x : List Int), x ∈ onceL p acc L ↔ x ∈ acc ∨ (x ∈ L ∧ p x) := by
  intro L
  induction L with
  | nil => intro acc x; exact ⟨Or.inl, fun h => h.resolve_right (fun z => by cases z.1)⟩
  | cons y L ih =>
    intro acc x
    have e : onceL p acc (y :: L) = onceL p (onceS p acc y) L := rfl
    rw [e, ih]
    by_cases h : p y ∧ y ∉ acc
    · rw [onceS_1 h.1 h.2, List.mem_append, List.mem_singleton, List.mem_cons]
      constructor
      · rintro ((a | a) | a)
        · exact Or.inl a
        · rw [a]; exact Or.inr ⟨Or.inl rfl, h.1⟩
        · exact Or.inr ⟨Or.inr a.1, a.2⟩
      · rintro (a | ⟨a | a, b⟩)
        · exact Or.inl (Or.inl a)
        · exact Or.inl (Or.inr a)
        · exact Or.inr ⟨a, b⟩
    · rw [onceS_0 h, List.mem_cons]
      constructor
      · rintro (a | a)
        · exact Or.inl a
        · exact Or.inr ⟨Or.inr a.1, a.2⟩
      · rintro (a | ⟨a | a, b⟩)
        · exact Or.inl a
        · rw [a] at b ⊢
          exact Or.inl (Classical.byContradiction (fun z => h ⟨b, z⟩))
        · exact Or.inr ⟨a, b⟩
theorem once_nodup {p : List Int → Prop} : ∀ (L acc : List (List Int)), acc.Nodup → (onceL p acc L).Nodup := by
  intro L
  induction L with
  | nil => intro acc h; exact h
  | cons y L ih =>
    intro acc h
    have e : onceL p acc (y :: L) = onceL p (onceS p acc y) L := rfl
    rw [e]
    refine ih _ ?_
    by_cases g : p y ∧ y ∉ acc
    · rw [onceS_1 g.1 g.2]
      refine List.nodup_append.mpr ⟨h, by simp, fun a ha b hb => ?_⟩
      have : b = y := List.mem_singleton.mp hb
      intro e2
      exact g.2 (by rw [← this, ← e2]; exact ha)
    · rw [onceS_0 g]; exact h
theorem mem_cmb {how : Int} {L R : List (List Int)} {x : List Int} : x ∈ cmbL how L R ↔ (x ∈ L ∧ cmbP how R x) ∨ (how = 0 ∧ x ∈ R) := by
  unfold cmbL
  split
  · next h =>
    rw [mem_once, mem_once]
    constructor
    · rintro ((a | a) | a)
      · cases a
      · exact Or.inl a
      · exact Or.inr ⟨h, a.1⟩
    · rintro (a | a)
      · exact Or.inl (Or.inr a)
      · exact Or.inr ⟨a.2, trivial⟩
  · next h =>
    rw [mem_once]
    constructor
    · rintro (a | a)
      · cases a
      · exact Or.inl a
    · rintro (a | a)
      · exact Or.inr a
      · exact absurd a.1 h
theorem cmb_nodup {how : Int} {L R : List (List Int)} : (cmbL how L R).Nodup := by
  unfold cmbL
  split
  · exact once_nodup _ _ (once_nodup _ _ List.nodup_nil)
  · exact once_nodup _ _ List.nodup_nil
theorem cmbL_perm {how : Int} {L L' R R' : List (List Int)} (h : L.Perm L') (g : R.Perm R') : (cmbL how L R).Perm (cmbL how L' R') := by
  refine (List.perm_ext_iff_of_nodup cmb_nodup cmb_nodup).mpr (fun x => ?_)
  rw [mem_cmb, mem_cmb]
  unfold cmbP
  rw [h.mem_iff, g.mem_iff]
/-- number of rows -/
theorem jRow_len {how B C : Int} {wb : Nat} {R : List (List Int)} {x : List Int} {m : Nat} (h : (flt (mt2 B C x) R).length ≤ m) (h1 : 1 ≤ m) : (jRow how B C wb R x).length ≤ m := by
  unfold jRow jM jT
  rw [List.length_append]
  generalize hF : flt (mt2 B C x) R = F at *
  by_cases h2 : how ≤ 2
  · rw [if_pos h2, List.length_map, if_neg (show ¬ ((how = 3 ∧ 0 < F.length) ∨ (how = 4 ∧ F.length = 0)) by omega)]
    split
    · show F.length + 1 ≤ m; omega
    · show F.length + 0 ≤ m; omega
  · rw [if_neg h2]
    split
    · show 0 + 1 ≤ m; omega
    · split
      · show 0 + 1 ≤ m; omega
      · show 0 + 0 ≤ m; omega
theorem flatMap_len {f : List Int → List (List Int)} {m : Nat} : ∀ L : List (List Int), (∀ x ∈ L, (f x).length ≤ m) → (L.flatMap f).length ≤ L.length * m := by
  intro L
  induction L with
  | nil => intro _; show 0 ≤ 0 * m; omega
  | cons x L ih =>
    intro h
    have a := h x List.mem_cons_self
    have b := ih (fun y hy => h y (List.mem_cons_of_mem _ hy))
    rw [List.flatMap_cons, List.length_append, List.length_cons, Nat.succ_mul]
    omega
theorem joinL_len {how B C : Int} {wa wb : Nat} {L R : List (List Int)} {A D : Nat} (ha : L.length ≤ A) (hd : R.length ≤ D) (hA : 2 ≤ A) (hD : 2 ≤ D) : (joinL how B C wa wb L R).length ≤ A * D := by
  have key : ∀ x ∈ L, (flt (mt2 B C x) R).length ≤ (flt (fun y => ∃ x ∈ L, mt2 B C x y) R).length := fun x hx => flt_mono (fun r _ m => ⟨x, hx, m⟩)
  have sp := flt_split (p := fun y => ∃ x ∈ L, mt2 B C x y) R
  unfold joinL jLeft
  rw [List.length_append]
  have r1 : (jRight how B C wa L R).length ≤ (flt (fun y => ¬ ∃ x ∈ L, mt2 B C x y) R).length := by
    unfold jRight
    split
    · rw [List.length_map]; exact Nat.le_refl _
    · exact Nat.zero_le _
  generalize (flt (fun y => ∃ x ∈ L, mt2 B C x y) R).length = k at *
  generalize (flt (fun y => ¬ ∃ x ∈ L, mt2 B C x y) R).length = u at *
  by_cases hk : k = 0
  · have l1 := flatMap_len (f := jRow how B C wb R) (m := 1) L (fun x hx => jRow_len (by have := key x hx; omega) (Nat.le_refl _))
    have q : A + D ≤ A * D := by
      have h1 : A * 2 ≤ A * D := Nat.mul_le_mul_left _ hD
      have h2 : 2 * D ≤ A * D := Nat.mul_le_mul_right _ hA
      omega
    omega
  · have l1 := flatMap_len (f := jRow how B C wb R) (m := k) L (fun x hx => jRow_len (key x hx) (by omega))
    have q1 : L.length * k ≤ A * k := Nat.mul_le_mul_right _ ha
    have q2 : A * k + A * (R.length - k) = A * R.length := by rw [← Nat.mul_add]; congr 1; omega
    have q3 : A * R.length ≤ A * D := Nat.mul_le_mul_left _ hd
    have q4 : 1 * (R.length - k) ≤ A * (R.length - k) := Nat.mul_le_mul_right _ (by omega)
    omega
theorem cmbL_len {how : Int} {L R : List (List Int)} : (cmbL how L R).length ≤ L.length + R.length := by
  unfold cmbL
  split
  · have a := onceL_len (p := fun _ => True) R (onceL (cmbP how R) [] L)
    have b := onceL_len (p := cmbP how R) L []
    have : ([] : List (List Int)).length = 0 := rfl
    omega
  · have b := onceL_len (p := cmbP how R) L []
    have : ([] : List (List Int)).length = 0 := rfl
    omega
/-- weight -/
theorem tw_jRow {how B C : Int} {wb : Nat} {R : List (List Int)} {x : List Int} : tw (jRow how B C wb R x) ≤ (R.length + 1) * rm x + tw R := by
  have e := tw_sub (flt_sub (p := mt2 B C x) R)
  have l := (flt_sub (p := mt2 B C x) R).length_le
  have x1 := rm_1 x
  unfold jRow
  rw [tw_app]
  generalize flt (mt2 B C x) R = F at *
  have a : tw (jM how x F) ≤ F.length * rm x + tw F := by
    unfold jM
    split
    · have := tw_map (f := fun y => x ++ y) (m := rm x) (by omega) (L := F) (fun r _ => by have := rm_app x r; show rm (x ++ r) ≤ _; omega)
      rw [Int.mul_comm]; omega
    · have := tw_nn F
      have : 0 ≤ (F.length : Int) * rm x := Int.mul_nonneg (by omega) (by omega)
      show (0 : Int) ≤ _
      omega
  have b : tw (jT how wb x F.length) ≤ rm x := by
    unfold jT
    split
    · show rm x + 0 ≤ rm x; omega
    · split
      · have := rm_nulR x wb
        show rm (x ++ nul wb) + 0 ≤ rm x
        omega
      · show (0 : Int) ≤ rm x; omega
  have c : (F.length : Int) * rm x ≤ R.length * rm x := Int.mul_le_mul_of_nonneg_right (by omega) (by omega)
  rw [Int.add_mul]
  omega
theorem tw_joinL {how B C : Int} {wa wb : Nat} {L R : List (List Int)} : tw (joinL how B C wa wb L R) ≤ (R.length + 1) * tw L + (L.length + 1) * tw R := by
  have l1 : ∀ L : List (List Int), tw (L.flatMap (jRow how B C wb R)) ≤ (R.length + 1) * tw L + L.length * tw R := by
    intro L
    induction L with
    | nil => show (0 : Int) ≤ (R.length + 1) * 0 + 0 * tw R; omega
    | cons x L ih =>
      have a := tw_jRow (how := how) (B := B) (C := C) (wb := wb) (R := R) (x := x)
      rw [List.flatMap_cons, tw_app]
      show _ ≤ ((R.length : Int) + 1) * (rm x + tw L) + ((L.length + 1 : Nat) : Int) * tw R
      rw [Int.mul_add, Int.natCast_add, Int.add_mul (L.length : Int)]
      omega
  have r1 : tw (jRight how B C wa L R) ≤ tw R := by
    unfold jRight
    split
    · have e := tw_sub (flt_sub (p := fun y => ¬ ∃ x ∈ L, mt2 B C x y) R)
      have := tw_map (f := fun y => nul wa ++ y) (m := 0) (Int.le_refl _) (L := flt (fun y => ¬ ∃ x ∈ L, mt2 B C x y) R) (fun r _ => by have := rm_nulL r wa; show rm (nul wa ++ r) ≤ _; omega)
      omega
    · exact tw_nn R
  unfold joinL jLeft
  rw [tw_app, Int.add_mul (L.length : Int)]
  have := l1 L
  omega
theorem tw_onceL {p : List Int → Prop} : ∀ (L acc : List (List Int)), tw (onceL p acc L) ≤ tw acc + tw L := by
  intro L
  induction L with
  | nil => intro acc; show tw acc ≤ tw acc + 0; omega
  | cons y L ih =>
    intro acc
    have e : onceL p acc (y :: L) = onceL p (onceS p acc y) L := rfl
    have y1 := rm_1 y
    have a := ih (onceS p acc y)
    rw [e]
    show _ ≤ tw acc + (rm y + tw L)
    by_cases g : p y ∧ y ∉ acc
    · rw [onceS_1 g.1 g.2] at a ⊢
      rw [tw_app] at a
      have : tw [y] = rm y + 0 := rfl
      omega
    · rw [onceS_0 g] at a ⊢; omega
theorem tw_cmbL {how : Int} {L R : List (List Int)} : tw (cmbL how L R) ≤ tw L + tw R := by
  have z : tw ([] : List (List Int)) = 0 := rfl
  have r0 := tw_nn R
  unfold cmbL
  split
  · have a := tw_onceL (p := fun _ => True) R (onceL (cmbP how R) [] L)
    have b := tw_onceL (p := cmbP how R) L []
    omega
  · have b := tw_onceL (p := cmbP how R) L []
    omega
theorem rm_keepR {s : Int} {w : Nat} {r : List Int} : rm (keepR s w r) ≤ rm r := by
  refine rm_le (rm_1 r) (fun v hv => ?_)
  unfold keepR at hv
  obtain ⟨c, _, e⟩ := List.mem_map.mp hv
  rw [← e]
  exact nth_av r c
theorem tw_keepL {s : Int} {w : Nat} {L : List (List Int)} : tw (keepL s w L) ≤ tw L := by
  have := tw_map (f := keepR s w) (m := 0) (Int.le_refl _) (L := L) (fun r _ => by have := rm_keepR (s := s) (w := w) (r := r); omega)
  unfold keepL
  omega
end
