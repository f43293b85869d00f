theorem ce_obj {D : GD} {ad : Nat → Nat} {P : PT} {J I : IT} {o c n : Nat} (h : c < 13) : ce D ad P J I o (c, n) = .inr (c, (List.range (nF c)).map (fun k => if isP c k then va_rf ((P o (k : Int)).map ad) else .int (Int32.ofInt (I o (k : Int))))) := if_pos h
theorem ce_I {D : GD} {ad : Nat → Nat} {P : PT} {J I : IT} {o n : Nat} : ce D ad P J I o (100, n) = .inl (D.2.2.1 0, n, .inl (fun j => Int32.ofInt (I o (j : Int)))) := rfl
theorem ce_Z {D : GD} {ad : Nat → Nat} {P : PT} {J I : IT} {o n : Nat} : ce D ad P J I o (101, n) = .inl (D.2.2.1 1, n, .inl (fun j => Int32.ofInt (I o (j : Int)))) := rfl
theorem ce_J {D : GD} {ad : Nat → Nat} {P : PT} {J I : IT} {o n : Nat} : ce D ad P J I o (102, n) = .inl (D.2.2.1 2, n, .inr (.inl (fun j => Int64.ofInt (J o (j : Int))))) := rfl
theorem ce_R {D : GD} {ad : Nat → Nat} {P : PT} {J I : IT} {o n : Nat} : ce D ad P J I o (103, n) = .inl (D.2.2.1 3, n, .inr (.inr (.inr (.inr (fun j => (P o (j : Int)).map ad))))) := rfl
theorem ce_O {D : GD} {ad : Nat → Nat} {P : PT} {J I : IT} {o n : Nat} : ce D ad P J I o (104, n) = .inl (D.2.2.1 4, n, .inr (.inr (.inr (.inr (fun j => (P o (j : Int)).map ad))))) := rfl
/-- what lies at a name depends on its own numbers alone -/
theorem ce_congr {D : GD} {ad ad' : Nat → Nat} {P P' : PT} {J J' I I' : IT} {o : Nat} (kd : Nat × Nat) (hI : ∀ k, I' o k = I o k) (hJ : ∀ k, J' o k = J o k) (hP : ∀ k, (P' o k).map ad' = (P o k).map ad) : ce D ad' P' J' I' o kd = ce D ad P J I o kd := by
  unfold ce
  simp only [hI, hJ, hP]
theorem up2_eq {α : Type} (f : Nat → Int → α) (o : Nat) (k : Int) (v : α) : up2 f o k v o k = v := if_pos ⟨rfl, rfl⟩
theorem up2_o {α : Type} (f : Nat → Int → α) {o o' : Nat} (k k' : Int) (v : α) (h : o' ≠ o) : up2 f o k v o' k' = f o' k' := if_neg (fun q => h q.1)
theorem up2_k {α : Type} (f : Nat → Int → α) (o o' : Nat) {k k' : Int} (v : α) (h : k' ≠ k) : up2 f o k v o' k' = f o' k' := if_neg (fun q => h q.2)
theorem upK_eq (K : KT) (o : Nat) (v : Nat × Nat) : upK K o v o = some v := if_pos rfl
theorem upK_o (K : KT) {o o' : Nat} (v : Nat × Nat) (h : o' ≠ o) : upK K o v o' = K o' := if_neg h
theorem mapset {α β : Type} {dom : List α} {f g : α → β} {i : Nat} {o : α} (hn : dom.Nodup) (hi : dom[i]? = some o) (h : ∀ o', o' ≠ o → f o' = g o') : (dom.map f).set i (g o) = dom.map g := by
  apply List.ext_getElem?
  intro j
  have hl := (List.getElem?_eq_some_iff.mp hi).1
  by_cases hj : i = j
  · subst hj
    rw [List.getElem?_set_self (by simpa using hl), List.getElem?_map, hi]; rfl
  · rw [List.getElem?_set_ne hj, List.getElem?_map, List.getElem?_map]
    cases hq : dom[j]? with
    | none => rfl
    | some o' =>
      have : o' ≠ o := fun e => by
        subst e
        exact hj ((List.getElem?_inj hl hn).mp (hi.trans hq.symm))
      show some (f o') = some (g o')
      rw [h o' this]
section Heap
variable {D : GD} {A : Nat → Prop} {ad : Nat → Nat} {dom : List Nat} {K : KT} {P : PT} {J I : IT} {H : Heap}
theorem OR.ints {I' : IT} (hO : OR D ad K I) (h : ∀ o n, K o = some (14, n) → ∀ k, I' o k = I o k) : OR D ad K I' :=
  ⟨hO.1, fun o n e => ⟨(hO.2.1 o n e).1, (hO.2.1 o n e).2.1, (hO.2.1 o n e).2.2.1, fun j => by rw [h o n e]; exact (hO.2.1 o n e).2.2.2 j⟩, hO.2.2⟩
/-- kinds that stand inside -/
def ik (kd : Nat × Nat) : Prop := kd.1 ≠ 14 ∧ (kd.1 = 104 → 0 < kd.2)
theorem ik_c {c n : Nat} (h : c < 13) : ik (c, n) := by
  refine ⟨fun e => ?_, fun e => ?_⟩
  · have e1 : c = 14 := e
    omega
  · have e1 : c = 104 := e
    omega
theorem ik_n {c n : Nat} (h : Nat.beq c 14 = false) (h2 : Nat.beq c 104 = false) : ik (c, n) := by
  refine ⟨fun e => ?_, fun e => ?_⟩
  · have e1 : c = 14 := e
    subst e1
    cases h
  · have e1 : c = 104 := e
    subst e1
    cases h2
theorem ik_o {n : Nat} (h : 0 < n) : ik (104, n) := by
  refine ⟨fun e => ?_, fun _ => h⟩
  have e1 : (104 : Nat) = 14 := e
  cases e1
theorem ik_nou (hO : OR D ad K I) {o : Nat} {kd : Nat × Nat} (hk : K o = some kd) (hi : ik kd) : ¬ ou K o := by
  intro h
  rcases h with e | ⟨n, e⟩
  · subst e
    have u := hO.1.1
    rw [hk] at u
    cases u
    exact absurd (hi.2 rfl) (Nat.lt_irrefl 0)
  · rw [hk] at e
    cases e
    exact hi.1 rfl
theorem Rep.atn (h : Rep D A ad dom K P J I H) {o : Nat} {kd : Nat × Nat} (hk : K o = some kd) (hn : ¬ ou K o) : ∃ i : Nat, dom[i]? = some o ∧ (wl D ad dom K P J I)[i]? = some (ad o, ce D ad P J I o kd) := by
  obtain ⟨i, hi⟩ := List.getElem?_of_mem ((h.2.1.1 o).mpr ⟨by rw [hk]; rfl, hn⟩)
  refine ⟨i, hi, ?_⟩
  unfold wl
  rw [List.getElem?_map, hi]
  show some (ad o, ce D ad P J I o ((K o).getD (0, 0))) = _
  rw [hk]; rfl
theorem Rep.at (h : Rep D A ad dom K P J I H) {o : Nat} {kd : Nat × Nat} (hk : K o = some kd) (hi : ik kd) : ∃ i : Nat, dom[i]? = some o ∧ (wl D ad dom K P J I)[i]? = some (ad o, ce D ad P J I o kd) := h.atn hk (ik_nou h.2.1.2 hk hi)
theorem Rep.set (h : Rep D A ad dom K P J I H) {o i : Nat} {kd : Nat × Nat} {e : va_E} {P' : PT} {J' I' : IT} {H1 : Heap} (hk : K o = some kd) (hi : dom[i]? = some o) (he : e = ce D ad P' J' I' o kd)
    (h1 : ∀ o', o' ≠ o → ∀ k, I' o' k = I o' k) (h2 : ∀ o', o' ≠ o → ∀ k, J' o' k = J o' k) (h3 : ∀ o', o' ≠ o → ∀ k, P' o' k = P o' k)
    (hP : va_P (D.1, D.2.1) classes ((wl D ad dom K P J I).set i (ad o, e)) H1) (hD : va_D A ((wl D ad dom K P J I).set i (ad o, e))) : Rep D A ad dom K P' J' I' H1 := by
  have e1 : (wl D ad dom K P J I).set i (ad o, e) = wl D ad dom K P' J' I' := by
    have q := mapset (f := fun o => (ad o, ce D ad P J I o ((K o).getD (0, 0)))) (g := fun o => (ad o, ce D ad P' J' I' o ((K o).getD (0, 0)))) h.1 hi (fun o' ho => by
      show (ad o', ce D ad P J I o' ((K o').getD (0, 0))) = (ad o', ce D ad P' J' I' o' ((K o').getD (0, 0)))
      rw [ce_congr ((K o').getD (0, 0)) (h1 o' ho) (h2 o' ho) (fun k => by rw [h3 o' ho k])])
    unfold wl
    rw [← q]
    show _ = (dom.map _).set i (ad o, ce D ad P' J' I' o ((K o).getD (0, 0)))
    rw [hk, he]; rfl
  rw [e1] at hP hD
  exact ⟨h.1, ⟨h.2.1.1, h.2.1.2.ints (fun o' n e k => h1 o' (fun z => by subst z; exact ((h.2.1.1 _).mp (List.mem_of_getElem? hi)).2 (Or.inr ⟨n, e⟩)) k)⟩, hP, hD⟩
theorem Rep.lt (h : Rep D A ad dom K P J I H) {o : Nat} (hk : (K o).isSome = true) (hn : ¬ ou K o) : ad o < H.size := by
  obtain ⟨kd, e⟩ := Option.isSome_iff_exists.mp hk
  obtain ⟨i, -, hi⟩ := h.atn e hn
  exact (h.2.2.1 i _ hi).lt
theorem OR.out (hO : OR D ad K I) {o : Nat} (h : ou K o) : (o = 999 ∧ ad o = D.2.2.2.1) ∨ (o = 49 ∧ ad o = D.2.2.2.2.1) := by
  rcases h with e | ⟨n, e⟩
  · subst e; exact Or.inl ⟨rfl, hO.1.2⟩
  · exact Or.inr ⟨(hO.2.1 o n e).1, (hO.2.1 o n e).2.1⟩
theorem Rep.inj (h : Rep D A ad dom K P J I H) {o o' : Nat} (hk : (K o).isSome = true) (hk' : (K o').isSome = true) (e : ad o = ad o') : o = o' := by
  have hO := h.2.1.2
  by_cases n1 : ou K o
  · by_cases n2 : ou K o'
    · rcases hO.out n1 with ⟨a1, a2⟩ | ⟨a1, a2⟩
      · rcases hO.out n2 with ⟨b1, b2⟩ | ⟨b1, b2⟩
        · rw [a1, b1]
        · exact absurd (a2.symm.trans (e.trans b2)) hO.2.2.1
      · rcases hO.out n2 with ⟨b1, b2⟩ | ⟨b1, b2⟩
        · exact absurd (b2.symm.trans (e.symm.trans a2)) hO.2.2.1
        · rw [a1, b1]
    · have u := hO.2.2.2 o' hk' n2
      rcases hO.out n1 with ⟨-, a2⟩ | ⟨-, a2⟩
      · exact absurd (e.symm.trans a2) u.1
      · exact absurd (e.symm.trans a2) u.2
  · by_cases n2 : ou K o'
    · have u := hO.2.2.2 o hk n1
      rcases hO.out n2 with ⟨-, a2⟩ | ⟨-, a2⟩
      · exact absurd (e.trans a2) u.1
      · exact absurd (e.trans a2) u.2
    · obtain ⟨kd, e1⟩ := Option.isSome_iff_exists.mp hk
      obtain ⟨kd', e2⟩ := Option.isSome_iff_exists.mp hk'
      obtain ⟨i, hi, hi2⟩ := h.atn e1 n1
      obtain ⟨j, hj, hj2⟩ := h.atn e2 n2
      have w := h.2.2.2.1 i j _ _ hi2 hj2 e
      subst w
      rw [hi] at hj
      exact Option.some.inj hj
/-- a new name -/
theorem Rep.new (h : Rep D A ad dom K P J I H) (hwf : WF K P J I) {o a : Nat} {kd : Nat × Nat} {e : va_E} {H1 : Heap} (hA : ¬ A D.2.2.2.1 ∧ ¬ A D.2.2.2.2.1) (h14 : Nat.beq kd.1 14 = false) (hk : K o = none) (he : e = ce D (fun q => if q = o then a else ad q) P J I o kd)
    (hP : va_P (D.1, D.2.1) classes (wl D ad dom K P J I ++ [(a, e)]) H1) (hD : va_D A (wl D ad dom K P J I ++ [(a, e)])) : Rep D A (fun q => if q = o then a else ad q) (dom ++ [o]) (upK K o kd) P J I H1 := by
  have ho : o ∉ dom := fun q => by have := ((h.2.1.1 o).mp q).1; rw [hk] at this; cases this
  have hx : ∀ o', (P o' = P o') ∧ ∀ k, (P o' k).map (fun q => if q = o then a else ad q) = (P o' k).map ad := fun o' => ⟨rfl, fun k => by
    cases hp : P o' k with
    | none => rfl
    | some q =>
      have hq := hwf.2.2.1 o' k q hp
      have : q ≠ o := fun e => by subst e; rw [hk] at hq; cases hq
      show some (if q = o then a else ad q) = some (ad q)
      rw [if_neg this]⟩
  have e1 : wl D ad dom K P J I ++ [(a, e)] = wl D (fun q => if q = o then a else ad q) (dom ++ [o]) (upK K o kd) P J I := by
    unfold wl
    rw [List.map_append]
    congr 1
    · apply List.map_congr_left
      intro o' ho'
      have hne : o' ≠ o := fun e => ho (e ▸ ho')
      show (ad o', ce D ad P J I o' ((K o').getD (0, 0))) = ((if o' = o then a else ad o'), ce D (fun q => if q = o then a else ad q) P J I o' ((upK K o kd o').getD (0, 0)))
      rw [if_neg hne, upK_o K kd hne, ce_congr (ad' := fun q => if q = o then a else ad q) ((K o').getD (0, 0)) (fun k => rfl) (fun k => rfl) (hx o').2]
    · show [(a, e)] = [((if o = o then a else ad o), ce D (fun q => if q = o then a else ad q) P J I o ((upK K o kd o).getD (0, 0)))]
      rw [if_pos rfl, upK_eq, he]; rfl
  have hO := h.2.1.2
  have o9 : o ≠ 999 := fun z => by rw [z, hO.1.1] at hk; cases hk
  have n14 : ∀ o' n, upK K o kd o' = some (14, n) → o' ≠ o ∧ K o' = some (14, n) := fun o' n e => by
    by_cases z : o' = o
    · subst z
      rw [upK_eq] at e
      cases e
      cases h14
    · exact ⟨z, by rw [upK_o K kd z] at e; exact e⟩
  have nou : ∀ o', o' ≠ o → (ou (upK K o kd) o' ↔ ou K o') := fun o' z => by unfold ou; rw [upK_o K kd z]
  have noo : ¬ ou (upK K o kd) o := fun z => z.elim (fun z => o9 z) (fun ⟨n, z⟩ => (n14 o n z).1 rfl)
  have aA : A a := hD.2 (wl D ad dom K P J I).length (a, e) (by rw [List.getElem?_append_right (Nat.le_refl _), Nat.sub_self]; rfl)
  rw [e1] at hP hD
  refine ⟨?_, ⟨fun o' => ?_, ⟨⟨?_, ?_⟩, fun o' n e => ?_, hO.2.2.1, fun o' h1 h2 => ?_⟩⟩, hP, hD⟩
  · rw [List.nodup_append]
    exact ⟨h.1, by simp, fun x hx' y hy => by simp at hy; subst hy; exact fun e => ho (e ▸ hx')⟩
  · rw [List.mem_append, h.2.1.1 o', List.mem_singleton]
    by_cases e : o' = o
    · subst e
      exact ⟨fun _ => ⟨by rw [upK_eq]; rfl, noo⟩, fun _ => Or.inr rfl⟩
    · rw [nou o' e, upK_o K kd e]
      exact ⟨fun z => z.elim id (fun z => absurd z e), Or.inl⟩
  · rw [upK_o K kd (fun z => o9 z.symm)]; exact hO.1.1
  · show (if 999 = o then a else ad 999) = _
    rw [if_neg (fun z => o9 z.symm)]; exact hO.1.2
  · obtain ⟨z, e2⟩ := n14 o' n e
    obtain ⟨b1, b2, b3⟩ := hO.2.1 o' n e2
    exact ⟨b1, by show (if o' = o then a else ad o') = _; rw [if_neg z]; exact b2, b3⟩
  · show (if o' = o then a else ad o') ≠ _ ∧ (if o' = o then a else ad o') ≠ _
    by_cases z : o' = o
    · rw [if_pos z]
      exact ⟨fun q => hA.1 (q ▸ aA), fun q => hA.2 (q ▸ aA)⟩
    · rw [if_neg z]
      rw [upK_o K kd z] at h1
      exact hO.2.2.2 o' h1 (fun q => h2 ((nou o' z).mpr q))
end Heap
theorem WF.upI {K : KT} {P : PT} {J I : IT} (h : WF K P J I) {o : Nat} {k z : Int} (hk : (K o).isSome = true) (hz : inR z) : WF K P J (up2 I o k z) := by
  refine ⟨fun o' k' => ?_, h.2.1, h.2.2.1, fun o' hn => ⟨fun k' => ?_, (h.2.2.2 o' hn).2⟩⟩
  · unfold up2; split
    · exact hz
    · exact h.1 o' k'
  · rw [up2_o I k k' z (fun e => by subst e; rw [hn] at hk; cases hk)]; exact (h.2.2.2 o' hn).1 k'
theorem WF.upJ {K : KT} {P : PT} {J I : IT} (h : WF K P J I) {o : Nat} {k z : Int} (hk : (K o).isSome = true) (hz : inJ z) : WF K P (up2 J o k z) I := by
  refine ⟨h.1, fun o' k' => ?_, h.2.2.1, fun o' hn => ⟨(h.2.2.2 o' hn).1, fun k' => ?_, (h.2.2.2 o' hn).2.2⟩⟩
  · unfold up2; split
    · exact hz
    · exact h.2.1 o' k'
  · rw [up2_o J k k' z (fun e => by subst e; rw [hn] at hk; cases hk)]; exact (h.2.2.2 o' hn).2.1 k'
theorem WF.upP {K : KT} {P : PT} {J I : IT} (h : WF K P J I) {o : Nat} {k : Int} {r : Option Nat} (hk : (K o).isSome = true) (hz : ∀ q, r = some q → (K q).isSome = true) : WF K (up2 P o k r) J I := by
  refine ⟨h.1, h.2.1, fun o' k' q hq => ?_, fun o' hn => ⟨(h.2.2.2 o' hn).1, (h.2.2.2 o' hn).2.1, fun k' => ?_⟩⟩
  · unfold up2 at hq; split at hq
    · exact hz q hq
    · exact h.2.2.1 o' k' q hq
  · rw [up2_o P k k' r (fun e => by subst e; rw [hn] at hk; cases hk)]; exact (h.2.2.2 o' hn).2.2 k'
theorem some_up {K : KT} {o : Nat} {kd : Nat × Nat} {q : Nat} (h : (K q).isSome = true) : (upK K o kd q).isSome = true := by
  unfold upK; split
  · rfl
  · exact h
theorem WF.new {K : KT} {P : PT} {J I : IT} (h : WF K P J I) {o : Nat} {kd : Nat × Nat} : WF (upK K o kd) P J I := by
  refine ⟨h.1, h.2.1, fun o' k q hq => some_up (h.2.2.1 o' k q hq), fun o' hn => ?_⟩
  unfold upK at hn; split at hn
  · cases hn
  · exact h.2.2.2 o' hn
theorem WFv.new {K : KT} {o : Nat} {kd : Nat × Nat} {v : AV} (h : WFv K v) : WFv (upK K o kd) v := by
  rcases v with z | r | z
  · exact h
  · exact fun q e => some_up (h q e)
  · exact h
theorem cv_new {K : KT} {o a : Nat} {ad : Nat → Nat} (hk : K o = none) {v : AV} (h : WFv K v) : cv (fun q => if q = o then a else ad q) v = cv ad v := by
  rcases v with z | r | z
  · rfl
  · cases r with
    | none => rfl
    | some q =>
      have hq := h q rfl
      have : q ≠ o := fun e => by subst e; rw [hk] at hq; cases hq
      show va_rf (some (if q = o then a else ad q)) = va_rf (some (ad q))
      rw [if_neg this]
  · rfl
theorem cl_new {K : KT} {o a : Nat} {ad : Nat → Nat} (hk : K o = none) {L : List (Nat × AV)} (h : WFl K L) : cl (fun q => if q = o then a else ad q) L = cl ad L :=
  List.map_congr_left (fun q hq => by show (q.1, cv _ q.2) = (q.1, cv ad q.2); rw [cv_new hk (h q hq)])
theorem cs_new {K : KT} {o a : Nat} {ad : Nat → Nat} (hk : K o = none) {S : List AV} (h : WFs K S) : S.map (cv (fun q => if q = o then a else ad q)) = S.map (cv ad) :=
  List.map_congr_left (fun v hv => cv_new hk (h v hv))
theorem rg_at {α : Type} {n k : Nat} (f : Nat → α) (h : k < n) : ((List.range n).map f)[k]? = some (f k) := by rw [List.getElem?_map, List.getElem?_range h]; rfl
theorem rg_set {α : Type} {n k : Nat} (f g : Nat → α) (h : k < n) (hg : ∀ j, j ≠ k → g j = f j) : ((List.range n).map f).set k (g k) = (List.range n).map g := by
  have := mapset (dom := List.range n) (f := f) (g := g) (i := k) (o := k) List.nodup_range (List.getElem?_range h) (fun j hj => (hg j hj).symm)
  exact this
section Rows
variable {M : MD} {x : Bool} {R : Room} {Q : PQ} {K : KT} {P : PT} {J I : IT} {cs n pc pc' : Nat} {L : List (Nat × AV)} {S : List AV}
theorem kn {C : String} {T : u_T} {N ci : Nat} (hc : classes[ci]? = some (C, T, N)) : nF ci = N ∧ ci < 13 := by
  have hl : ci < 13 := (List.getElem?_eq_some_iff.mp hc).1
  have : ∀ c : Nat, c < 13 → (classes[c]?).map (fun q => q.2.2) = some (nF c) := by decide +kernel
  have h := this ci hl
  rw [hc] at h
  exact ⟨(Option.some.inj h).symm, hl⟩
theorem VW.getI {C : String} {T : u_T} {N ci k o n0 j : Nat} (d : decode M.2.1 pc = .ok (.getfield j, 3)) (hp : pc + 3 = pc') (hlk : Cond.fieldLink M.1.cls j (T k).1 (T k).2.1 (T k).2.2.1 ∈ TB) (hin : ∀ w ∈ u_ws C T N, w ∈ TB) (hc : classes[ci]? = some (C, T, N)) (hk : Nat.ble (k + 1) N = true) (hr : isP ci k = false)
    (ho : K o = some (ci, n0)) (kk : VW M x R Q K P J I cs n pc' L (vI (I o (k : Int)) :: S)) : VW M x R Q K P J I cs n pc L (vR (some o) :: S) := by
  subst hp
  intro p l e s m args below meth c D ad0 ad K0 dom H locs ls X hl
  obtain ⟨i, -, hi⟩ := X.2.2.2.2.2.2.1.at ho (ik_c (kn hc).2)
  rw [ce_obj (kn hc).2, (kn hc).1] at hi
  have hk' := Nat.le_of_ble_eq_true hk
  refine va_get (k := k) (v := cv ad (vI (I o (k : Int)))) X.1.1 X.1.2.1 X.1.2.2.2.2.2.1 hin X.1.2.2.2.2.1 X.2.1 X.2.2.2.2.2.2.1.2.2.1 i hi hc hk' (X.1.2.2.2.2.2.1 _ hlk) (fun _ h => h) ((rg_at _ hk').trans (by simp only [hr]; rfl)) d ?_
  exact kk p l e s m args below meth c D ad0 ad K0 dom H locs ls (X.re (WFs.cons (X.2.2.2.1.1 o k) X.2.2.2.2.1.tl) X.2.2.2.2.2.1) hl
theorem VW.getP {C : String} {T : u_T} {N ci k o n0 j : Nat} (d : decode M.2.1 pc = .ok (.getfield j, 3)) (hp : pc + 3 = pc') (hlk : Cond.fieldLink M.1.cls j (T k).1 (T k).2.1 (T k).2.2.1 ∈ TB) (hin : ∀ w ∈ u_ws C T N, w ∈ TB) (hc : classes[ci]? = some (C, T, N)) (hk : Nat.ble (k + 1) N = true) (hr : isP ci k = true)
    (ho : K o = some (ci, n0)) (kk : VW M x R Q K P J I cs n pc' L (vR (P o (k : Int)) :: S)) : VW M x R Q K P J I cs n pc L (vR (some o) :: S) := by
  subst hp
  intro p l e s m args below meth c D ad0 ad K0 dom H locs ls X hl
  obtain ⟨i, -, hi⟩ := X.2.2.2.2.2.2.1.at ho (ik_c (kn hc).2)
  rw [ce_obj (kn hc).2, (kn hc).1] at hi
  have hk' := Nat.le_of_ble_eq_true hk
  refine va_get (k := k) (v := cv ad (vR (P o (k : Int)))) X.1.1 X.1.2.1 X.1.2.2.2.2.2.1 hin X.1.2.2.2.2.1 X.2.1 X.2.2.2.2.2.2.1.2.2.1 i hi hc hk' (X.1.2.2.2.2.2.1 _ hlk) (fun _ h => h) ((rg_at _ hk').trans (by simp only [hr]; rfl)) d ?_
  exact kk p l e s m args below meth c D ad0 ad K0 dom H locs ls (X.re (WFs.cons (X.2.2.2.1.2.2.1 o k) X.2.2.2.2.1.tl) X.2.2.2.2.2.1) hl
theorem VW.putI {C : String} {T : u_T} {N ci k o n0 j : Nat} {ty : Nat → FieldType} {z : Int} (d : decode M.2.1 pc = .ok (.putfield j, 3)) (hp : pc + 3 = pc') (hlk : Cond.fieldLink M.1.cls j (T k).1 (T k).2.1 (T k).2.2.1 ∈ TB) (hin : ∀ w ∈ u_ws C T N, w ∈ TB) (hty : ∀ k, k < N → parseFieldDescriptor (T k).2.2.1 = some (ty k)) (hnm : ∀ a, a < N → ∀ b, b < N → a ≠ b → (T a).2.1 ≠ (T b).2.1)
    (hc : classes[ci]? = some (C, T, N)) (hk : Nat.ble (k + 1) N = true) (hr : isP ci k = false) (hfin : (T k).2.2.2 = false) (ht : ty k = .int)
    (ho : K o = some (ci, n0)) (kk : VW M x R Q K P J (up2 I o k z) cs n pc' L S) : VW M x R Q K P J I cs n pc L (vI z :: vR (some o) :: S) := by
  subst hp
  intro p l e s m args below meth c D ad0 ad K0 dom H locs ls X hl
  obtain ⟨i, hdi, hi⟩ := X.2.2.2.2.2.2.1.at ho (ik_c (kn hc).2)
  have hi0 := hi
  rw [ce_obj (kn hc).2, (kn hc).1] at hi
  have hk' := Nat.le_of_ble_eq_true hk
  have hko : (K o).isSome = true := by rw [ho]; rfl
  have hfit : narrow (ty k) (cv ad (vI z)) = cv ad (vI z) ∧ fits (ty k) (cv ad (vI z)) = true := by
    rw [ht]; exact ⟨rfl, rfl⟩
  refine va_put (k := k) (v := cv ad (vI z)) X.1.1 X.1.2.1 X.1.2.2.2.2.2.1 hin ty hty hnm X.1.2.2.2.2.1 X.2.1 X.2.2.2.2.2.2.1.2.2.1 X.2.2.2.2.2.2.1.2.2.2 X.2.2.2.2.2.2.2.1 i hi hc hk' (X.1.2.2.2.2.2.1 _ hlk) (fun _ h => h) hfin (hty k hk') hfit.1 hfit.2 (by rw [List.length_map, List.length_range]; exact hk') d (fun H1 locs1 hP hD hS => ?_)
  have e1 : ((List.range N).map (fun w => if isP ci w then va_rf ((P o (w : Int)).map ad) else .int (Int32.ofInt (I o (w : Int))))).set k (cv ad (vI z)) = (List.range N).map (fun w => if isP ci w then va_rf ((P o (w : Int)).map ad) else .int (Int32.ofInt ((up2 I o k z) o (w : Int)))) := by
    rw [← rg_set (k := k) (fun w => if isP ci w then va_rf ((P o (w : Int)).map ad) else .int (Int32.ofInt (I o (w : Int)))) (fun w => if isP ci w then va_rf ((P o (w : Int)).map ad) else .int (Int32.ofInt ((up2 I o k z) o (w : Int)))) hk' (fun j hj => by rw [up2_k I o o z (by omega)])]
    congr 1
    simp only [hr, up2_eq]; rfl
  rw [e1] at hP hD
  have hR := X.2.2.2.2.2.2.1.set (P' := P) (J' := J) (I' := up2 I o k z) ho hdi (by rw [ce_obj (kn hc).2, (kn hc).1]) (fun o' ho' k' => up2_o I k k' z ho') (fun _ _ _ => rfl) (fun _ _ _ => rfl) hP hD
  obtain ⟨x1, x2, x3, x4, x5, x6, x7, x8, x9⟩ := X
  exact kk p l e s m args below meth c D ad0 ad K0 dom H1 locs1 ls ⟨x1, x2, x3, x4.upI hko x5.hd, x5.tl.tl, x6, hR, hS, x9⟩ hl
theorem VW.putZ {C : String} {T : u_T} {N ci k o n0 j : Nat} {ty : Nat → FieldType} {z : Int} (d : decode M.2.1 pc = .ok (.putfield j, 3)) (hp : pc + 3 = pc') (hlk : Cond.fieldLink M.1.cls j (T k).1 (T k).2.1 (T k).2.2.1 ∈ TB) (hin : ∀ w ∈ u_ws C T N, w ∈ TB) (hty : ∀ k, k < N → parseFieldDescriptor (T k).2.2.1 = some (ty k)) (hnm : ∀ a, a < N → ∀ b, b < N → a ≠ b → (T a).2.1 ≠ (T b).2.1)
    (hc : classes[ci]? = some (C, T, N)) (hk : Nat.ble (k + 1) N = true) (hr : isP ci k = false) (hfin : (T k).2.2.2 = false) (ht : ty k = .boolean) (hz : z = 0 ∨ z = 1)
    (ho : K o = some (ci, n0)) (kk : VW M x R Q K P J (up2 I o k z) cs n pc' L S) : VW M x R Q K P J I cs n pc L (vI z :: vR (some o) :: S) := by
  subst hp
  intro p l e s m args below meth c D ad0 ad K0 dom H locs ls X hl
  obtain ⟨i, hdi, hi⟩ := X.2.2.2.2.2.2.1.at ho (ik_c (kn hc).2)
  have hi0 := hi
  rw [ce_obj (kn hc).2, (kn hc).1] at hi
  have hk' := Nat.le_of_ble_eq_true hk
  have hko : (K o).isSome = true := by rw [ho]; rfl
  have hfit : narrow (ty k) (cv ad (vI z)) = cv ad (vI z) ∧ fits (ty k) (cv ad (vI z)) = true := by
    rw [ht]; rcases hz with rfl | rfl <;> exact ⟨rfl, rfl⟩
  refine va_put (k := k) (v := cv ad (vI z)) X.1.1 X.1.2.1 X.1.2.2.2.2.2.1 hin ty hty hnm X.1.2.2.2.2.1 X.2.1 X.2.2.2.2.2.2.1.2.2.1 X.2.2.2.2.2.2.1.2.2.2 X.2.2.2.2.2.2.2.1 i hi hc hk' (X.1.2.2.2.2.2.1 _ hlk) (fun _ h => h) hfin (hty k hk') hfit.1 hfit.2 (by rw [List.length_map, List.length_range]; exact hk') d (fun H1 locs1 hP hD hS => ?_)
  have e1 : ((List.range N).map (fun w => if isP ci w then va_rf ((P o (w : Int)).map ad) else .int (Int32.ofInt (I o (w : Int))))).set k (cv ad (vI z)) = (List.range N).map (fun w => if isP ci w then va_rf ((P o (w : Int)).map ad) else .int (Int32.ofInt ((up2 I o k z) o (w : Int)))) := by
    rw [← rg_set (k := k) (fun w => if isP ci w then va_rf ((P o (w : Int)).map ad) else .int (Int32.ofInt (I o (w : Int)))) (fun w => if isP ci w then va_rf ((P o (w : Int)).map ad) else .int (Int32.ofInt ((up2 I o k z) o (w : Int)))) hk' (fun j hj => by rw [up2_k I o o z (by omega)])]
    congr 1
    simp only [hr, up2_eq]; rfl
  rw [e1] at hP hD
  have hR := X.2.2.2.2.2.2.1.set (P' := P) (J' := J) (I' := up2 I o k z) ho hdi (by rw [ce_obj (kn hc).2, (kn hc).1]) (fun o' ho' k' => up2_o I k k' z ho') (fun _ _ _ => rfl) (fun _ _ _ => rfl) hP hD
  obtain ⟨x1, x2, x3, x4, x5, x6, x7, x8, x9⟩ := X
  exact kk p l e s m args below meth c D ad0 ad K0 dom H1 locs1 ls ⟨x1, x2, x3, x4.upI hko x5.hd, x5.tl.tl, x6, hR, hS, x9⟩ hl
theorem VW.putP {C : String} {T : u_T} {N ci k o n0 j : Nat} {ty : Nat → FieldType} {r : Option Nat} (d : decode M.2.1 pc = .ok (.putfield j, 3)) (hp : pc + 3 = pc') (hlk : Cond.fieldLink M.1.cls j (T k).1 (T k).2.1 (T k).2.2.1 ∈ TB) (hin : ∀ w ∈ u_ws C T N, w ∈ TB) (hty : ∀ k, k < N → parseFieldDescriptor (T k).2.2.1 = some (ty k)) (hnm : ∀ a, a < N → ∀ b, b < N → a ≠ b → (T a).2.1 ≠ (T b).2.1)
    (hc : classes[ci]? = some (C, T, N)) (hk : Nat.ble (k + 1) N = true) (hr : isP ci k = true) (hfin : (T k).2.2.2 = false) (ht : (∃ q, ty k = .object q) ∨ ∃ q, ty k = .array q)
    (ho : K o = some (ci, n0)) (kk : VW M x R Q K (up2 P o k r) J I cs n pc' L S) : VW M x R Q K P J I cs n pc L (vR r :: vR (some o) :: S) := by
  subst hp
  intro p l e s m args below meth c D ad0 ad K0 dom H locs ls X hl
  obtain ⟨i, hdi, hi⟩ := X.2.2.2.2.2.2.1.at ho (ik_c (kn hc).2)
  have hi0 := hi
  rw [ce_obj (kn hc).2, (kn hc).1] at hi
  have hk' := Nat.le_of_ble_eq_true hk
  have hko : (K o).isSome = true := by rw [ho]; rfl
  have hfit : narrow (ty k) (cv ad (vR r)) = cv ad (vR r) ∧ fits (ty k) (cv ad (vR r)) = true := by
    rcases ht with ⟨q, ht⟩ | ⟨q, ht⟩ <;> rw [ht] <;> cases r <;> exact ⟨rfl, rfl⟩
  refine va_put (k := k) (v := cv ad (vR r)) X.1.1 X.1.2.1 X.1.2.2.2.2.2.1 hin ty hty hnm X.1.2.2.2.2.1 X.2.1 X.2.2.2.2.2.2.1.2.2.1 X.2.2.2.2.2.2.1.2.2.2 X.2.2.2.2.2.2.2.1 i hi hc hk' (X.1.2.2.2.2.2.1 _ hlk) (fun _ h => h) hfin (hty k hk') hfit.1 hfit.2 (by rw [List.length_map, List.length_range]; exact hk') d (fun H1 locs1 hP hD hS => ?_)
  have e1 : ((List.range N).map (fun w => if isP ci w then va_rf ((P o (w : Int)).map ad) else .int (Int32.ofInt (I o (w : Int))))).set k (cv ad (vR r)) = (List.range N).map (fun w => if isP ci w then va_rf (((up2 P o k r) o (w : Int)).map ad) else .int (Int32.ofInt (I o (w : Int)))) := by
    rw [← rg_set (k := k) (fun w => if isP ci w then va_rf ((P o (w : Int)).map ad) else .int (Int32.ofInt (I o (w : Int)))) (fun w => if isP ci w then va_rf (((up2 P o k r) o (w : Int)).map ad) else .int (Int32.ofInt (I o (w : Int)))) hk' (fun j hj => by rw [up2_k P o o r (by omega)])]
    congr 1
    simp only [hr, up2_eq]; rfl
  rw [e1] at hP hD
  have hR := X.2.2.2.2.2.2.1.set (P' := up2 P o k r) (J' := J) (I' := I) ho hdi (by rw [ce_obj (kn hc).2, (kn hc).1]) (fun _ _ _ => rfl) (fun _ _ _ => rfl) (fun o' ho' k' => up2_o P k k' r ho') hP hD
  obtain ⟨x1, x2, x3, x4, x5, x6, x7, x8, x9⟩ := X
  exact kk p l e s m args below meth c D ad0 ad K0 dom H1 locs1 ls ⟨x1, x2, x3, x4.upP hko x5.hd, x5.tl.tl, x6, hR, hS, x9⟩ hl
theorem VW.putIF {C : String} {T : u_T} {N ci k o n0 j : Nat} {ty : Nat → FieldType} {z : Int} (d : decode M.2.1 pc = .ok (.putfield j, 3)) (hp : pc + 3 = pc') (hlk : Cond.fieldLink M.1.cls j (T k).1 (T k).2.1 (T k).2.2.1 ∈ TB) (hin : ∀ w ∈ u_ws C T N, w ∈ TB) (hty : ∀ k, k < N → parseFieldDescriptor (T k).2.2.1 = some (ty k)) (hnm : ∀ a, a < N → ∀ b, b < N → a ≠ b → (T a).2.1 ≠ (T b).2.1)
    (hc : classes[ci]? = some (C, T, N)) (hk : Nat.ble (k + 1) N = true) (hr : isP ci k = false) (hfin : (T k).2.2.2 = true) (hini : M.1.name = "<init>") (hdl : (T k).1 = M.1.cls) (ht : ty k = .int)
    (ho : K o = some (ci, n0)) (kk : VW M x R Q K P J (up2 I o k z) cs n pc' L S) : VW M x R Q K P J I cs n pc L (vI z :: vR (some o) :: S) := by
  subst hp
  intro p l e s m args below meth c D ad0 ad K0 dom H locs ls X hl
  obtain ⟨i, hdi, hi⟩ := X.2.2.2.2.2.2.1.at ho (ik_c (kn hc).2)
  have hi0 := hi
  rw [ce_obj (kn hc).2, (kn hc).1] at hi
  have hk' := Nat.le_of_ble_eq_true hk
  have hko : (K o).isSome = true := by rw [ho]; rfl
  have hfit : narrow (ty k) (cv ad (vI z)) = cv ad (vI z) ∧ fits (ty k) (cv ad (vI z)) = true := by
    rw [ht]; exact ⟨rfl, rfl⟩
  refine va_putF (k := k) (v := cv ad (vI z)) X.1.1 X.1.2.1 X.1.2.2.2.2.2.1 hin ty hty hnm X.1.2.2.2.2.1 X.2.1 X.2.2.2.2.2.2.1.2.2.1 X.2.2.2.2.2.2.1.2.2.2 X.2.2.2.2.2.2.2.1 i hi hc hk' (X.1.2.2.2.2.2.1 _ hlk) (fun _ h => h) hfin (X.1.2.2.2.2.2.2.2.1 hini) hdl (hty k hk') hfit.1 hfit.2 (by rw [List.length_map, List.length_range]; exact hk') d (fun H1 locs1 hP hD hS => ?_)
  have e1 : ((List.range N).map (fun w => if isP ci w then va_rf ((P o (w : Int)).map ad) else .int (Int32.ofInt (I o (w : Int))))).set k (cv ad (vI z)) = (List.range N).map (fun w => if isP ci w then va_rf ((P o (w : Int)).map ad) else .int (Int32.ofInt ((up2 I o k z) o (w : Int)))) := by
    rw [← rg_set (k := k) (fun w => if isP ci w then va_rf ((P o (w : Int)).map ad) else .int (Int32.ofInt (I o (w : Int)))) (fun w => if isP ci w then va_rf ((P o (w : Int)).map ad) else .int (Int32.ofInt ((up2 I o k z) o (w : Int)))) hk' (fun j hj => by rw [up2_k I o o z (by omega)])]
    congr 1
    simp only [hr, up2_eq]; rfl
  rw [e1] at hP hD
  have hR := X.2.2.2.2.2.2.1.set (P' := P) (J' := J) (I' := up2 I o k z) ho hdi (by rw [ce_obj (kn hc).2, (kn hc).1]) (fun o' ho' k' => up2_o I k k' z ho') (fun _ _ _ => rfl) (fun _ _ _ => rfl) hP hD
  obtain ⟨x1, x2, x3, x4, x5, x6, x7, x8, x9⟩ := X
  exact kk p l e s m args below meth c D ad0 ad K0 dom H1 locs1 ls ⟨x1, x2, x3, x4.upI hko x5.hd, x5.tl.tl, x6, hR, hS, x9⟩ hl
theorem VW.putZF {C : String} {T : u_T} {N ci k o n0 j : Nat} {ty : Nat → FieldType} {z : Int} (d : decode M.2.1 pc = .ok (.putfield j, 3)) (hp : pc + 3 = pc') (hlk : Cond.fieldLink M.1.cls j (T k).1 (T k).2.1 (T k).2.2.1 ∈ TB) (hin : ∀ w ∈ u_ws C T N, w ∈ TB) (hty : ∀ k, k < N → parseFieldDescriptor (T k).2.2.1 = some (ty k)) (hnm : ∀ a, a < N → ∀ b, b < N → a ≠ b → (T a).2.1 ≠ (T b).2.1)
    (hc : classes[ci]? = some (C, T, N)) (hk : Nat.ble (k + 1) N = true) (hr : isP ci k = false) (hfin : (T k).2.2.2 = true) (hini : M.1.name = "<init>") (hdl : (T k).1 = M.1.cls) (ht : ty k = .boolean) (hz : z = 0 ∨ z = 1)
    (ho : K o = some (ci, n0)) (kk : VW M x R Q K P J (up2 I o k z) cs n pc' L S) : VW M x R Q K P J I cs n pc L (vI z :: vR (some o) :: S) := by
  subst hp
  intro p l e s m args below meth c D ad0 ad K0 dom H locs ls X hl
  obtain ⟨i, hdi, hi⟩ := X.2.2.2.2.2.2.1.at ho (ik_c (kn hc).2)
  have hi0 := hi
  rw [ce_obj (kn hc).2, (kn hc).1] at hi
  have hk' := Nat.le_of_ble_eq_true hk
  have hko : (K o).isSome = true := by rw [ho]; rfl
  have hfit : narrow (ty k) (cv ad (vI z)) = cv ad (vI z) ∧ fits (ty k) (cv ad (vI z)) = true := by
    rw [ht]; rcases hz with rfl | rfl <;> exact ⟨rfl, rfl⟩
  refine va_putF (k := k) (v := cv ad (vI z)) X.1.1 X.1.2.1 X.1.2.2.2.2.2.1 hin ty hty hnm X.1.2.2.2.2.1 X.2.1 X.2.2.2.2.2.2.1.2.2.1 X.2.2.2.2.2.2.1.2.2.2 X.2.2.2.2.2.2.2.1 i hi hc hk' (X.1.2.2.2.2.2.1 _ hlk) (fun _ h => h) hfin (X.1.2.2.2.2.2.2.2.1 hini) hdl (hty k hk') hfit.1 hfit.2 (by rw [List.length_map, List.length_range]; exact hk') d (fun H1 locs1 hP hD hS => ?_)
  have e1 : ((List.range N).map (fun w => if isP ci w then va_rf ((P o (w : Int)).map ad) else .int (Int32.ofInt (I o (w : Int))))).set k (cv ad (vI z)) = (List.range N).map (fun w => if isP ci w then va_rf ((P o (w : Int)).map ad) else .int (Int32.ofInt ((up2 I o k z) o (w : Int)))) := by
    rw [← rg_set (k := k) (fun w => if isP ci w then va_rf ((P o (w : Int)).map ad) else .int (Int32.ofInt (I o (w : Int)))) (fun w => if isP ci w then va_rf ((P o (w : Int)).map ad) else .int (Int32.ofInt ((up2 I o k z) o (w : Int)))) hk' (fun j hj => by rw [up2_k I o o z (by omega)])]
    congr 1
    simp only [hr, up2_eq]; rfl
  rw [e1] at hP hD
  have hR := X.2.2.2.2.2.2.1.set (P' := P) (J' := J) (I' := up2 I o k z) ho hdi (by rw [ce_obj (kn hc).2, (kn hc).1]) (fun o' ho' k' => up2_o I k k' z ho') (fun _ _ _ => rfl) (fun _ _ _ => rfl) hP hD
  obtain ⟨x1, x2, x3, x4, x5, x6, x7, x8, x9⟩ := X
  exact kk p l e s m args below meth c D ad0 ad K0 dom H1 locs1 ls ⟨x1, x2, x3, x4.upI hko x5.hd, x5.tl.tl, x6, hR, hS, x9⟩ hl
theorem VW.putPF {C : String} {T : u_T} {N ci k o n0 j : Nat} {ty : Nat → FieldType} {r : Option Nat} (d : decode M.2.1 pc = .ok (.putfield j, 3)) (hp : pc + 3 = pc') (hlk : Cond.fieldLink M.1.cls j (T k).1 (T k).2.1 (T k).2.2.1 ∈ TB) (hin : ∀ w ∈ u_ws C T N, w ∈ TB) (hty : ∀ k, k < N → parseFieldDescriptor (T k).2.2.1 = some (ty k)) (hnm : ∀ a, a < N → ∀ b, b < N → a ≠ b → (T a).2.1 ≠ (T b).2.1)
    (hc : classes[ci]? = some (C, T, N)) (hk : Nat.ble (k + 1) N = true) (hr : isP ci k = true) (hfin : (T k).2.2.2 = true) (hini : M.1.name = "<init>") (hdl : (T k).1 = M.1.cls) (ht : (∃ q, ty k = .object q) ∨ ∃ q, ty k = .array q)
    (ho : K o = some (ci, n0)) (kk : VW M x R Q K (up2 P o k r) J I cs n pc' L S) : VW M x R Q K P J I cs n pc L (vR r :: vR (some o) :: S) := by
  subst hp
  intro p l e s m args below meth c D ad0 ad K0 dom H locs ls X hl
  obtain ⟨i, hdi, hi⟩ := X.2.2.2.2.2.2.1.at ho (ik_c (kn hc).2)
  have hi0 := hi
  rw [ce_obj (kn hc).2, (kn hc).1] at hi
  have hk' := Nat.le_of_ble_eq_true hk
  have hko : (K o).isSome = true := by rw [ho]; rfl
  have hfit : narrow (ty k) (cv ad (vR r)) = cv ad (vR r) ∧ fits (ty k) (cv ad (vR r)) = true := by
    rcases ht with ⟨q, ht⟩ | ⟨q, ht⟩ <;> rw [ht] <;> cases r <;> exact ⟨rfl, rfl⟩
  refine va_putF (k := k) (v := cv ad (vR r)) X.1.1 X.1.2.1 X.1.2.2.2.2.2.1 hin ty hty hnm X.1.2.2.2.2.1 X.2.1 X.2.2.2.2.2.2.1.2.2.1 X.2.2.2.2.2.2.1.2.2.2 X.2.2.2.2.2.2.2.1 i hi hc hk' (X.1.2.2.2.2.2.1 _ hlk) (fun _ h => h) hfin (X.1.2.2.2.2.2.2.2.1 hini) hdl (hty k hk') hfit.1 hfit.2 (by rw [List.length_map, List.length_range]; exact hk') d (fun H1 locs1 hP hD hS => ?_)
  have e1 : ((List.range N).map (fun w => if isP ci w then va_rf ((P o (w : Int)).map ad) else .int (Int32.ofInt (I o (w : Int))))).set k (cv ad (vR r)) = (List.range N).map (fun w => if isP ci w then va_rf (((up2 P o k r) o (w : Int)).map ad) else .int (Int32.ofInt (I o (w : Int)))) := by
    rw [← rg_set (k := k) (fun w => if isP ci w then va_rf ((P o (w : Int)).map ad) else .int (Int32.ofInt (I o (w : Int)))) (fun w => if isP ci w then va_rf (((up2 P o k r) o (w : Int)).map ad) else .int (Int32.ofInt (I o (w : Int)))) hk' (fun j hj => by rw [up2_k P o o r (by omega)])]
    congr 1
    simp only [hr, up2_eq]; rfl
  rw [e1] at hP hD
  have hR := X.2.2.2.2.2.2.1.set (P' := up2 P o k r) (J' := J) (I' := I) ho hdi (by rw [ce_obj (kn hc).2, (kn hc).1]) (fun _ _ _ => rfl) (fun _ _ _ => rfl) (fun o' ho' k' => up2_o P k k' r ho') hP hD
  obtain ⟨x1, x2, x3, x4, x5, x6, x7, x8, x9⟩ := X
  exact kk p l e s m args below meth c D ad0 ad K0 dom H1 locs1 ls ⟨x1, x2, x3, x4.upP hko x5.hd, x5.tl.tl, x6, hR, hS, x9⟩ hl
theorem VW.iald {o N : Nat} {z : Int} (d : decode M.2.1 pc = .ok (.iaload, 1)) (hp : pc + 1 = pc') (ho : K o = some (100, N)) (h0 : 0 ≤ z) (h1 : z < N) (kk : VW M x R Q K P J I cs n pc' L (vI (I o z) :: S)) : VW M x R Q K P J I cs n pc L (vI z :: vR (some o) :: S) := by
  subst hp
  intro p l e s m args below meth c D ad0 ad K0 dom H locs ls X hl
  obtain ⟨i, -, hi⟩ := X.2.2.2.2.2.2.1.at ho (ik_n rfl rfl)
  rw [ce_I] at hi
  have wz : inR z := X.2.2.2.2.1.hd
  have ez : ((Int32.ofInt z).toNatClampNeg : Int) = z := by rw [i32_nat wz]; omega
  refine va_iald X.1.1 X.1.2.1 X.2.1 X.2.2.2.2.2.2.1.2.2.1 i 0 hi rfl (i32_in wz h0 h1) d ?_
  have q := kk p l e s m args below meth c D ad0 ad K0 dom H locs ls (X.re (WFs.cons (X.2.2.2.1.1 o z) X.2.2.2.2.1.tl.tl) X.2.2.2.2.2.1) hl
  rw [ez]
  exact q
theorem VW.zald {o N : Nat} {z : Int} (d : decode M.2.1 pc = .ok (.baload, 1)) (hp : pc + 1 = pc') (ho : K o = some (101, N)) (h0 : 0 ≤ z) (h1 : z < N) (kk : VW M x R Q K P J I cs n pc' L (vI (I o z) :: S)) : VW M x R Q K P J I cs n pc L (vI z :: vR (some o) :: S) := by
  subst hp
  intro p l e s m args below meth c D ad0 ad K0 dom H locs ls X hl
  obtain ⟨i, -, hi⟩ := X.2.2.2.2.2.2.1.at ho (ik_n rfl rfl)
  rw [ce_Z] at hi
  have wz : inR z := X.2.2.2.2.1.hd
  have ez : ((Int32.ofInt z).toNatClampNeg : Int) = z := by rw [i32_nat wz]; omega
  refine va_zald X.1.1 X.1.2.1 X.2.1 X.2.2.2.2.2.2.1.2.2.1 i 1 hi rfl (i32_in wz h0 h1) d ?_
  have q := kk p l e s m args below meth c D ad0 ad K0 dom H locs ls (X.re (WFs.cons (X.2.2.2.1.1 o z) X.2.2.2.2.1.tl.tl) X.2.2.2.2.2.1) hl
  rw [ez]
  exact q
theorem VW.lald {o N : Nat} {z : Int} (d : decode M.2.1 pc = .ok (.laload, 1)) (hp : pc + 1 = pc') (ho : K o = some (102, N)) (h0 : 0 ≤ z) (h1 : z < N) (kk : VW M x R Q K P J I cs n pc' L (vJ (J o z) :: S)) : VW M x R Q K P J I cs n pc L (vI z :: vR (some o) :: S) := by
  subst hp
  intro p l e s m args below meth c D ad0 ad K0 dom H locs ls X hl
  obtain ⟨i, -, hi⟩ := X.2.2.2.2.2.2.1.at ho (ik_n rfl rfl)
  rw [ce_J] at hi
  have wz : inR z := X.2.2.2.2.1.hd
  have ez : ((Int32.ofInt z).toNatClampNeg : Int) = z := by rw [i32_nat wz]; omega
  refine va_lald X.1.1 X.1.2.1 X.2.1 X.2.2.2.2.2.2.1.2.2.1 i 2 hi rfl (i32_in wz h0 h1) d ?_
  have q := kk p l e s m args below meth c D ad0 ad K0 dom H locs ls (X.re (WFs.cons (X.2.2.2.1.2.1 o z) X.2.2.2.2.1.tl.tl) X.2.2.2.2.2.1) hl
  rw [ez]
  exact q
theorem VW.rald {o N : Nat} {z : Int} (d : decode M.2.1 pc = .ok (.aaload, 1)) (hp : pc + 1 = pc') (ho : K o = some (103, N)) (h0 : 0 ≤ z) (h1 : z < N) (kk : VW M x R Q K P J I cs n pc' L (vR (P o z) :: S)) : VW M x R Q K P J I cs n pc L (vI z :: vR (some o) :: S) := by
  subst hp
  intro p l e s m args below meth c D ad0 ad K0 dom H locs ls X hl
  obtain ⟨i, -, hi⟩ := X.2.2.2.2.2.2.1.at ho (ik_n rfl rfl)
  rw [ce_R] at hi
  have wz : inR z := X.2.2.2.2.1.hd
  have ez : ((Int32.ofInt z).toNatClampNeg : Int) = z := by rw [i32_nat wz]; omega
  refine va_aldq X.1.1 X.1.2.1 X.2.1 X.2.2.2.2.2.2.1.2.2.1 i 3 hi rfl (i32_in wz h0 h1) d ?_
  have q := kk p l e s m args below meth c D ad0 ad K0 dom H locs ls (X.re (WFs.cons (X.2.2.2.1.2.2.1 o z) X.2.2.2.2.1.tl.tl) X.2.2.2.2.2.1) hl
  rw [ez]
  exact q
theorem VW.oald {o N : Nat} {z : Int} (d : decode M.2.1 pc = .ok (.aaload, 1)) (hp : pc + 1 = pc') (ho : K o = some (104, N)) (h0 : 0 ≤ z) (h1 : z < N) (kk : VW M x R Q K P J I cs n pc' L (vR (P o z) :: S)) : VW M x R Q K P J I cs n pc L (vI z :: vR (some o) :: S) := by
  subst hp
  intro p l e s m args below meth c D ad0 ad K0 dom H locs ls X hl
  obtain ⟨i, -, hi⟩ := X.2.2.2.2.2.2.1.at ho (ik_o (by omega))
  rw [ce_O] at hi
  have wz : inR z := X.2.2.2.2.1.hd
  have ez : ((Int32.ofInt z).toNatClampNeg : Int) = z := by rw [i32_nat wz]; omega
  refine va_aldq X.1.1 X.1.2.1 X.2.1 X.2.2.2.2.2.2.1.2.2.1 i 4 hi rfl (i32_in wz h0 h1) d ?_
  have q := kk p l e s m args below meth c D ad0 ad K0 dom H locs ls (X.re (WFs.cons (X.2.2.2.1.2.2.1 o z) X.2.2.2.2.1.tl.tl) X.2.2.2.2.2.1) hl
  rw [ez]
  exact q
theorem VW.iast {o N : Nat} {z v : Int} (d : decode M.2.1 pc = .ok (.iastore, 1)) (hp : pc + 1 = pc') (ho : K o = some (100, N)) (h0 : 0 ≤ z) (h1 : z < N) (kk : VW M x R Q K P J (up2 I o z v) cs n pc' L S) : VW M x R Q K P J I cs n pc L (vI v :: vI z :: vR (some o) :: S) := by
  subst hp
  intro p l e s m args below meth c D ad0 ad K0 dom H locs ls X hl
  obtain ⟨i, hdi, hi⟩ := X.2.2.2.2.2.2.1.at ho (ik_n rfl rfl)
  rw [ce_I] at hi
  have hko : (K o).isSome = true := by rw [ho]; rfl
  have wz : inR z := X.2.2.2.2.1.tl.hd
  have ez : (Int32.ofInt z).toNatClampNeg = z.toNat := i32_nat wz
  refine va_iast X.1.1 X.1.2.1 X.2.1 X.2.2.2.2.2.2.1.2.2.1 X.2.2.2.2.2.2.1.2.2.2 X.2.2.2.2.2.2.2.1 i 0 hi rfl (i32_in wz h0 h1) d (fun H1 locs1 hP hD hS => ?_)
  have e1 : upd (fun j => Int32.ofInt (I o (j : Int))) (Int32.ofInt z).toNatClampNeg (Int32.ofInt v) = (fun (j : Nat) => Int32.ofInt (up2 I o z v o (j : Int))) := by
    funext j
    unfold upd
    rw [ez]
    by_cases hj : j = z.toNat
    · rw [if_pos hj, hj, show ((z.toNat : Nat) : Int) = z by omega, up2_eq]
    · rw [if_neg hj, up2_k _ o o v (by omega)]
  rw [e1] at hP hD
  have hR := X.2.2.2.2.2.2.1.set (P' := P) (J' := J) (I' := up2 I o z v) ho hdi (by rw [ce_I]) (fun o' ho' k' => up2_o I z k' v ho') (fun _ _ _ => rfl) (fun _ _ _ => rfl) hP hD
  obtain ⟨x1, x2, x3, x4, x5, x6, x7, x8, x9⟩ := X
  exact kk p l e s m args below meth c D ad0 ad K0 dom H1 locs1 ls ⟨x1, x2, x3, x4.upI hko x5.hd, x5.tl.tl.tl, x6, hR, hS, x9⟩ hl
theorem VW.zast {o N : Nat} {z v : Int} (d : decode M.2.1 pc = .ok (.bastore, 1)) (hp : pc + 1 = pc') (ho : K o = some (101, N)) (h0 : 0 ≤ z) (h1 : z < N) (hv : v = 0 ∨ v = 1) (kk : VW M x R Q K P J (up2 I o z v) cs n pc' L S) : VW M x R Q K P J I cs n pc L (vI v :: vI z :: vR (some o) :: S) := by
  subst hp
  intro p l e s m args below meth c D ad0 ad K0 dom H locs ls X hl
  obtain ⟨i, hdi, hi⟩ := X.2.2.2.2.2.2.1.at ho (ik_n rfl rfl)
  rw [ce_Z] at hi
  have hko : (K o).isSome = true := by rw [ho]; rfl
  have wz : inR z := X.2.2.2.2.1.tl.hd
  have ez : (Int32.ofInt z).toNatClampNeg = z.toNat := i32_nat wz
  refine va_zast X.1.1 X.1.2.1 X.2.1 X.2.2.2.2.2.2.1.2.2.1 X.2.2.2.2.2.2.1.2.2.2 X.2.2.2.2.2.2.2.1 i 1 hi rfl (i32_in wz h0 h1) d (fun H1 locs1 hP hD hS => ?_)
  have e1 : upd (fun j => Int32.ofInt (I o (j : Int))) (Int32.ofInt z).toNatClampNeg (vp_nar .boolean (Int32.ofInt v)) = (fun (j : Nat) => Int32.ofInt (up2 I o z v o (j : Int))) := by
    funext j
    unfold upd
    rw [ez]
    by_cases hj : j = z.toNat
    · rw [if_pos hj, hj, show ((z.toNat : Nat) : Int) = z by omega, up2_eq]; rcases hv with rfl | rfl <;> rfl
    · rw [if_neg hj, up2_k _ o o v (by omega)]
  rw [e1] at hP hD
  have hR := X.2.2.2.2.2.2.1.set (P' := P) (J' := J) (I' := up2 I o z v) ho hdi (by rw [ce_Z]) (fun o' ho' k' => up2_o I z k' v ho') (fun _ _ _ => rfl) (fun _ _ _ => rfl) hP hD
  obtain ⟨x1, x2, x3, x4, x5, x6, x7, x8, x9⟩ := X
  exact kk p l e s m args below meth c D ad0 ad K0 dom H1 locs1 ls ⟨x1, x2, x3, x4.upI hko x5.hd, x5.tl.tl.tl, x6, hR, hS, x9⟩ hl
theorem VW.last {o N : Nat} {z v : Int} (d : decode M.2.1 pc = .ok (.lastore, 1)) (hp : pc + 1 = pc') (ho : K o = some (102, N)) (h0 : 0 ≤ z) (h1 : z < N) (kk : VW M x R Q K P (up2 J o z v) I cs n pc' L S) : VW M x R Q K P J I cs n pc L (vJ v :: vI z :: vR (some o) :: S) := by
  subst hp
  intro p l e s m args below meth c D ad0 ad K0 dom H locs ls X hl
  obtain ⟨i, hdi, hi⟩ := X.2.2.2.2.2.2.1.at ho (ik_n rfl rfl)
  rw [ce_J] at hi
  have hko : (K o).isSome = true := by rw [ho]; rfl
  have wz : inR z := X.2.2.2.2.1.tl.hd
  have ez : (Int32.ofInt z).toNatClampNeg = z.toNat := i32_nat wz
  refine va_last X.1.1 X.1.2.1 X.2.1 X.2.2.2.2.2.2.1.2.2.1 X.2.2.2.2.2.2.1.2.2.2 X.2.2.2.2.2.2.2.1 i 2 hi rfl (i32_in wz h0 h1) d (fun H1 locs1 hP hD hS => ?_)
  have e1 : vp_updL (fun j => Int64.ofInt (J o (j : Int))) (Int32.ofInt z).toNatClampNeg (Int64.ofInt v) = (fun (j : Nat) => Int64.ofInt (up2 J o z v o (j : Int))) := by
    funext j
    unfold vp_updL
    rw [ez]
    by_cases hj : j = z.toNat
    · rw [if_pos hj, hj, show ((z.toNat : Nat) : Int) = z by omega, up2_eq]
    · rw [if_neg hj, up2_k _ o o v (by omega)]
  rw [e1] at hP hD
  have hR := X.2.2.2.2.2.2.1.set (P' := P) (J' := up2 J o z v) (I' := I) ho hdi (by rw [ce_J]) (fun _ _ _ => rfl) (fun o' ho' k' => up2_o J z k' v ho') (fun _ _ _ => rfl) hP hD
  obtain ⟨x1, x2, x3, x4, x5, x6, x7, x8, x9⟩ := X
  exact kk p l e s m args below meth c D ad0 ad K0 dom H1 locs1 ls ⟨x1, x2, x3, x4.upJ hko x5.hd, x5.tl.tl.tl, x6, hR, hS, x9⟩ hl
theorem VW.alen {o N kd : Nat} (d : decode M.2.1 pc = .ok (.arraylength, 1)) (hp : pc + 1 = pc') (ho : K o = some (kd, N)) (hkd : kd = 100 ∨ kd = 101 ∨ kd = 102 ∨ kd = 103 ∨ kd = 104) (hN : (N : Int) ≤ 2147483647) (kk : VW M x R Q K P J I cs n pc' L (vI (N : Int) :: S)) : VW M x R Q K P J I cs n pc L (vR (some o) :: S) := by
  subst hp
  intro p l e s m args below meth c D ad0 ad K0 dom H locs ls X hl
  have q := kk p l e s m args below meth c D ad0 ad K0 dom H locs ls (X.re (WFs.cons (show inR (N : Int) from ⟨by omega, hN⟩) X.2.2.2.2.1.tl) X.2.2.2.2.2.1) hl
  rcases hkd with rfl | rfl | rfl | rfl | rfl
  · obtain ⟨i, -, hi⟩ := X.2.2.2.2.2.2.1.at ho (ik_n rfl rfl)
    rw [ce_I] at hi
    exact va_alen X.1.1 X.1.2.1 X.2.1 X.2.2.2.2.2.2.1.2.2.1 i 0 hi rfl (v := Int32.ofInt (N : Int)) Int32.ofInt_eq_ofNat.symm d q
  · obtain ⟨i, -, hi⟩ := X.2.2.2.2.2.2.1.at ho (ik_n rfl rfl)
    rw [ce_Z] at hi
    exact va_alen X.1.1 X.1.2.1 X.2.1 X.2.2.2.2.2.2.1.2.2.1 i 1 hi rfl (v := Int32.ofInt (N : Int)) Int32.ofInt_eq_ofNat.symm d q
  · obtain ⟨i, -, hi⟩ := X.2.2.2.2.2.2.1.at ho (ik_n rfl rfl)
    rw [ce_J] at hi
    exact va_alen X.1.1 X.1.2.1 X.2.1 X.2.2.2.2.2.2.1.2.2.1 i 2 hi rfl (v := Int32.ofInt (N : Int)) Int32.ofInt_eq_ofNat.symm d q
  · obtain ⟨i, -, hi⟩ := X.2.2.2.2.2.2.1.at ho (ik_n rfl rfl)
    rw [ce_R] at hi
    exact va_alen X.1.1 X.1.2.1 X.2.1 X.2.2.2.2.2.2.1.2.2.1 i 3 hi rfl (v := Int32.ofInt (N : Int)) Int32.ofInt_eq_ofNat.symm d q
  · by_cases e9 : o = 999
    · subst e9
      have hO := X.2.2.2.2.2.2.1.2.1.2
      have u := hO.1.1
      rw [ho] at u
      cases u
      obtain ⟨⟨⟨scr, g1, g2, g3, g4⟩, g5, g6⟩, -⟩ := X.2.2.1.2.2.2
      have ea : cv ad (vR (some 999)) = .ref D.2.2.2.1 := by
        show Value.ref (ad 999) = _
        rw [hO.1.2]
      rw [List.map_cons, ea]
      exact W.alen (n := Int32.ofNat 0) X.1.1 X.1.2.1 (by rw [X.2.2.2.2.2.2.2.1.2.1 _ g5 g6]; exact g1) g2 (by rw [g4] <;> rfl) rfl rfl d q
    obtain ⟨i, -, hi⟩ := X.2.2.2.2.2.2.1.atn ho (fun z => z.elim e9 (fun ⟨n, z⟩ => by rw [ho] at z; cases z))
    rw [ce_O] at hi
    exact va_alen X.1.1 X.1.2.1 X.2.1 X.2.2.2.2.2.2.1.2.2.1 i 4 hi rfl (v := Int32.ofInt (N : Int)) Int32.ofInt_eq_ofNat.symm d q
theorem Ext.new {ad0 : Nat → Nat} {K0 : KT} {ad : Nat → Nat} {K : KT} {o a : Nat} {kd : Nat × Nat} (h : Ext ad0 K0 ad K) (hk : K o = none) : Ext ad0 K0 (fun q => if q = o then a else ad q) (upK K o kd) := fun q hq => by
  obtain ⟨h1, h2⟩ := h q hq
  have : q ≠ o := fun e => by subst e; rw [hk] at h1; cases h1
  exact ⟨some_up h1, by show (if q = o then a else ad q) = _; rw [if_neg this]; exact h2⟩
theorem ExtD.new {D : GD} {ad0 : Nat → Nat} {K0 : KT} {ad : Nat → Nat} {K : KT} {o a : Nat} {kd : Nat × Nat} (h : ExtD D ad0 K0 ad K) (hk : K o = none) : ExtD D ad0 K0 (fun q => if q = o then a else ad q) (upK K o kd) := ⟨h.1.new hk, h.2⟩
theorem AF.new {ad : Nat → Nat} {K : KT} {sz q : Nat} (h : sz ≤ q) : AF ad K sz q := Or.inr h
theorem ZF.nA {D : GD} {A : Nat → Prop} {U : State} {H : Heap} (h : ZF D A U H) : ¬ A D.2.2.2.1 ∧ ¬ A D.2.2.2.2.1 := ⟨h.2.2.2.1.2.2, h.2.2.2.2.2.2⟩
theorem nbytes {N c : Nat} (h : N ≤ 60000000) (hc : c ≤ 8) : N * c ≤ 536870912 := Nat.le_trans (Nat.mul_le_mul_left N hc) (by omega)
/-- new C: the name o is the walk's choice -/
theorem VW.new (o : Nat) {C : String} {T : u_T} {N ci j : Nat} {ty : Nat → FieldType} (d : decode M.2.1 pc = .ok (.new j, 3)) (hp : pc + 3 = pc') (hlk : Cond.classLink M.1.cls j C ∈ TB) (hins : Cond.instantiable C N ∈ TB) (hini : Cond.initialized C ∈ TB) (hin : ∀ w ∈ u_ws C T N, w ∈ TB) (hty : ∀ k, k < N → parseFieldDescriptor (T k).2.2.1 = some (ty k))
    (hc : classes[ci]? = some (C, T, N)) (hdef : ∀ k, k < N → defaultValue (ty k) = if isP ci k then .null else .int 0) (ho : K o = none) (hcs : cs + 1 ≤ R.cells) (hn : n + N ≤ R.slots) (kk : VW M x R Q (upK K o (ci, 0)) P J I (cs + 1) (n + N) pc' L (vR (some o) :: S)) : VW M x R Q K P J I cs n pc L S := by
  subst hp
  intro p l e s m args below meth c D ad0 ad K0 dom H locs ls X hl
  obtain ⟨x1, x2, x3, x4, x5, x6, x7, x8, x9⟩ := X
  have hdf : ∀ k, k < N → defaultValue (ty k) = vp_V ((List.range N).map (fun k => if isP ci k then va_rf ((P o (k : Int)).map ad) else .int (Int32.ofInt (I o (k : Int))))) k := fun k hk => by
    unfold vp_V
    rw [List.getD_eq_getElem?_getD, rg_at _ hk, hdef k hk]
    show _ = (if isP ci k then va_rf ((P o (k : Int)).map ad) else .int (Int32.ofInt (I o (k : Int))))
    rw [(x4.2.2.2 o ho).1, (x4.2.2.2 o ho).2.2]; rfl
  refine va_new x1.1 x1.2.1 x1.2.2.2.2.2.1 hin ty hty x1.2.2.2.2.1 (x1.2.2.2.2.2.1 _ hlk) (x1.2.2.2.2.2.1 _ hins) (x1.2.2.2.2.2.1 _ hini) x2 x7.2.2.1 x7.2.2.2 x8 (fun q h => AF.new h) hc hdf hcs hn d (fun q H1 hP hD hS => ?_)
  have hR := x7.new (hA := x3.nA) (h14 := by have u := (kn hc).2; show Nat.beq ci 14 = false; exact Bool.eq_false_iff.mpr (fun z => by have w := Nat.eq_of_beq_eq_true z; omega)) x4 (kd := (ci, 0)) (a := q) ho (by
    rw [ce_obj (kn hc).2, (kn hc).1]
    congr 2
    apply List.map_congr_left
    intro k _
    rw [(x4.2.2.2 o ho).2.2]; rfl) hP hD
  have hl' : lv_has ls M.2.2.1 (cl (fun z => if z = o then q else ad z) L) := by rw [cl_new ho x6]; exact hl
  have k2 := kk p l e s m args below meth c D ad0 (fun z => if z = o then q else ad z) K0 (dom ++ [o]) H1 locs ls ⟨x1, x2, x3, x4.new, WFs.cons (fun z hz => by cases hz; rw [upK_eq]; rfl) (fun v hv => (x5 v hv).new), fun v hv => (x6 v hv).new, hR, hS, x9.new ho⟩ hl'
  have es : (vR (some o) :: S).map (cv (fun z => if z = o then q else ad z)) = .ref q :: S.map (cv ad) := by
    rw [List.map_cons, cs_new ho x5]
    show va_rf (some (if o = o then q else ad o)) :: _ = _
    rw [if_pos rfl]; rfl
  rw [es] at k2
  exact k2
/-- new .int[..]: the name o is the walk's choice -/
theorem VW.newI (o : Nat) {N : Nat} {z : Int} (d : decode M.2.1 pc = .ok (.newarray .int, 2)) (hp : pc + 2 = pc') (har : Cond.arrayClass .int ∈ TB) (hz : z = (N : Int)) (hN : N ≤ 60000000) (ho : K o = none) (hcs : cs + 1 ≤ R.cells) (hn : n + N ≤ R.slots) (kk : VW M x R Q (upK K o (100, N)) P J I (cs + 1) (n + N) pc' L (vR (some o) :: S)) : VW M x R Q K P J I cs n pc L (vI z :: S) := by
  subst hp
  subst hz
  intro p l e s m args below meth c D ad0 ad K0 dom H locs ls X hl
  obtain ⟨x1, x2, x3, x4, x5, x6, x7, x8, x9⟩ := X
  have wz : inR (N : Int) := x5.hd
  refine va_newa (atype := .int) (ty := .int) (a0 := (N, .inl (fun _ => 0))) (N' := N) x1.1 x1.2.1 (x1.2.2.2.2.2.1 _ har) rfl x2 x7.2.2.1 x7.2.2.2 x8 (fun q h => AF.new h) (fun cA => rfl) (by rw [i32_zero, i32_lt wz inR0]; omega) (by rw [i32_nat wz]; omega) (nbytes hN (by decide)) hcs hn d (fun q cA H1 hK1 hP hD hS => ?_)
  have hcA : cA = D.2.2.1 0 := by
    have q1 := (hK1.2 5 (cA, .int) rfl).2
    have q2 := (x2.2 0 (D.2.2.1 0, .int) rfl).2
    exact Option.some.inj ((show s.vm.findClass ("[" ++ (.int : FieldType).toString) = some cA from q1).symm.trans q2)
  subst hcA
  have hR := x7.new (hA := x3.nA) (h14 := rfl) x4 (kd := (100, N)) (a := q) ho (by
    rw [ce_I]
    simp only [(x4.2.2.2 o ho).1]; rfl) hP hD
  have hl' : lv_has ls M.2.2.1 (cl (fun z => if z = o then q else ad z) L) := by rw [cl_new ho x6]; exact hl
  have k2 := kk p l e s m args below meth c D ad0 (fun z => if z = o then q else ad z) K0 (dom ++ [o]) H1 locs ls ⟨x1, x2, x3, x4.new, WFs.cons (fun z hz => by cases hz; rw [upK_eq]; rfl) (fun v hv => (x5.tl v hv).new), fun v hv => (x6 v hv).new, hR, hS, x9.new ho⟩ hl'
  have es : (vR (some o) :: S).map (cv (fun z => if z = o then q else ad z)) = .ref q :: S.map (cv ad) := by
    rw [List.map_cons, cs_new ho x5.tl]
    show va_rf (some (if o = o then q else ad o)) :: _ = _
    rw [if_pos rfl]; rfl
  rw [es] at k2
  exact k2
/-- new .boolean[..]: the name o is the walk's choice -/
theorem VW.newZ (o : Nat) {N : Nat} {z : Int} (d : decode M.2.1 pc = .ok (.newarray .boolean, 2)) (hp : pc + 2 = pc') (har : Cond.arrayClass .boolean ∈ TB) (hz : z = (N : Int)) (hN : N ≤ 60000000) (ho : K o = none) (hcs : cs + 1 ≤ R.cells) (hn : n + N ≤ R.slots) (kk : VW M x R Q (upK K o (101, N)) P J I (cs + 1) (n + N) pc' L (vR (some o) :: S)) : VW M x R Q K P J I cs n pc L (vI z :: S) := by
  subst hp
  subst hz
  intro p l e s m args below meth c D ad0 ad K0 dom H locs ls X hl
  obtain ⟨x1, x2, x3, x4, x5, x6, x7, x8, x9⟩ := X
  have wz : inR (N : Int) := x5.hd
  refine va_newa (atype := .boolean) (ty := .boolean) (a0 := (N, .inl (fun _ => 0))) (N' := N) x1.1 x1.2.1 (x1.2.2.2.2.2.1 _ har) rfl x2 x7.2.2.1 x7.2.2.2 x8 (fun q h => AF.new h) (fun cA => rfl) (by rw [i32_zero, i32_lt wz inR0]; omega) (by rw [i32_nat wz]; omega) (nbytes hN (by decide)) hcs hn d (fun q cA H1 hK1 hP hD hS => ?_)
  have hcA : cA = D.2.2.1 1 := by
    have q1 := (hK1.2 5 (cA, .boolean) rfl).2
    have q2 := (x2.2 1 (D.2.2.1 1, .boolean) rfl).2
    exact Option.some.inj ((show s.vm.findClass ("[" ++ (.boolean : FieldType).toString) = some cA from q1).symm.trans q2)
  subst hcA
  have hR := x7.new (hA := x3.nA) (h14 := rfl) x4 (kd := (101, N)) (a := q) ho (by
    rw [ce_Z]
    simp only [(x4.2.2.2 o ho).1]; rfl) hP hD
  have hl' : lv_has ls M.2.2.1 (cl (fun z => if z = o then q else ad z) L) := by rw [cl_new ho x6]; exact hl
  have k2 := kk p l e s m args below meth c D ad0 (fun z => if z = o then q else ad z) K0 (dom ++ [o]) H1 locs ls ⟨x1, x2, x3, x4.new, WFs.cons (fun z hz => by cases hz; rw [upK_eq]; rfl) (fun v hv => (x5.tl v hv).new), fun v hv => (x6 v hv).new, hR, hS, x9.new ho⟩ hl'
  have es : (vR (some o) :: S).map (cv (fun z => if z = o then q else ad z)) = .ref q :: S.map (cv ad) := by
    rw [List.map_cons, cs_new ho x5.tl]
    show va_rf (some (if o = o then q else ad o)) :: _ = _
    rw [if_pos rfl]; rfl
  rw [es] at k2
  exact k2
/-- new .long[..]: the name o is the walk's choice -/
theorem VW.newJ (o : Nat) {N : Nat} {z : Int} (d : decode M.2.1 pc = .ok (.newarray .long, 2)) (hp : pc + 2 = pc') (har : Cond.arrayClass .long ∈ TB) (hz : z = (N : Int)) (hN : N ≤ 60000000) (ho : K o = none) (hcs : cs + 1 ≤ R.cells) (hn : n + N ≤ R.slots) (kk : VW M x R Q (upK K o (102, N)) P J I (cs + 1) (n + N) pc' L (vR (some o) :: S)) : VW M x R Q K P J I cs n pc L (vI z :: S) := by
  subst hp
  subst hz
  intro p l e s m args below meth c D ad0 ad K0 dom H locs ls X hl
  obtain ⟨x1, x2, x3, x4, x5, x6, x7, x8, x9⟩ := X
  have wz : inR (N : Int) := x5.hd
  refine va_newa (atype := .long) (ty := .long) (a0 := (N, .inr (.inl (fun _ => 0)))) (N' := N) x1.1 x1.2.1 (x1.2.2.2.2.2.1 _ har) rfl x2 x7.2.2.1 x7.2.2.2 x8 (fun q h => AF.new h) (fun cA => rfl) (by rw [i32_zero, i32_lt wz inR0]; omega) (by rw [i32_nat wz]; omega) (nbytes hN (by decide)) hcs hn d (fun q cA H1 hK1 hP hD hS => ?_)
  have hcA : cA = D.2.2.1 2 := by
    have q1 := (hK1.2 5 (cA, .long) rfl).2
    have q2 := (x2.2 2 (D.2.2.1 2, .long) rfl).2
    exact Option.some.inj ((show s.vm.findClass ("[" ++ (.long : FieldType).toString) = some cA from q1).symm.trans q2)
  subst hcA
  have hR := x7.new (hA := x3.nA) (h14 := rfl) x4 (kd := (102, N)) (a := q) ho (by
    rw [ce_J]
    simp only [(x4.2.2.2 o ho).2.1]; rfl) hP hD
  have hl' : lv_has ls M.2.2.1 (cl (fun z => if z = o then q else ad z) L) := by rw [cl_new ho x6]; exact hl
  have k2 := kk p l e s m args below meth c D ad0 (fun z => if z = o then q else ad z) K0 (dom ++ [o]) H1 locs ls ⟨x1, x2, x3, x4.new, WFs.cons (fun z hz => by cases hz; rw [upK_eq]; rfl) (fun v hv => (x5.tl v hv).new), fun v hv => (x6 v hv).new, hR, hS, x9.new ho⟩ hl'
  have es : (vR (some o) :: S).map (cv (fun z => if z = o then q else ad z)) = .ref q :: S.map (cv ad) := by
    rw [List.map_cons, cs_new ho x5.tl]
    show va_rf (some (if o = o then q else ad o)) :: _ = _
    rw [if_pos rfl]; rfl
  rw [es] at k2
  exact k2
end Rows
