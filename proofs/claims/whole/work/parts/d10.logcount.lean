/-! writes in the records, counted -/
section
variable {S S' : IT} {N : Nat} {L : List Rc}
/-- a key that j wrote -/
def WrK (S : IT) (j : Nat) (x : Int × Int) : Prop := ∃ r, wrR S r j x.1 x.2
noncomputable def wN (S : IT) (j : Nat) : Nat := (unM S j (S 100 44).toNat).length
def rq (i : Int) (x : Rc) : Bool := decide (x.1 = 0) && decide (x.2.1 = i)
theorem un_same {i : Int} : ∀ n : Nat, (∀ r : Nat, r < n → S' 246 r = S 246 r ∧ S' 247 r = S 247 r) → (unM S' i n).length = (unM S i n).length
  | 0, _ => rfl
  | n + 1, h => by
    have ih := un_same (i := i) n (fun r hr => h r (by omega))
    obtain ⟨a, b⟩ := h n (by omega)
    by_cases y : S 246 n = 0 ∧ S 247 n = i
    · have e1 : unM S i (n + 1) = (2, i, S 248 n, S 249 n) :: unM S i n := if_pos y
      have e2 : unM S' i (n + 1) = (2, i, S' 248 n, S' 249 n) :: unM S' i n := if_pos (by rw [a, b]; exact y)
      rw [e1, e2, List.length_cons, List.length_cons, ih]
    · have e1 : unM S i (n + 1) = unM S i n := if_neg y
      have e2 : unM S' i (n + 1) = unM S' i n := if_neg (by rw [a, b]; exact y)
      rw [e1, e2, ih]
theorem un_X {i : Int} (h : MlX S S' N L) : (unM S' i (N + L.length)).length = (unM S i N).length + (L.filter (rq i)).length := by
  obtain ⟨-, -, h3, h4⟩ := h
  have base : (unM S' i N).length = (unM S i N).length := un_same N (fun r hr => by
    have := h3 r (by omega)
    exact ⟨this.1, this.2.1⟩)
  have step : ∀ m : Nat, m ≤ L.length → (unM S' i (N + m)).length = (unM S i N).length + ((L.take m).filter (rq i)).length := fun m => by
    induction m with
    | zero => intro _; rw [List.take_zero]; exact base
    | succ m ih =>
      intro hm
      have ih := ih (by omega)
      obtain ⟨x, hx⟩ : ∃ x, L[m]? = some x := ⟨_, List.getElem?_eq_getElem (by omega)⟩
      obtain ⟨a, b, -, -⟩ := h4 m x hx
      rw [List.take_succ, hx, List.filter_append, List.length_append]
      show (unM S' i ((N + m) + 1)).length = _ + (_ + (List.filter (rq i) [x]).length)
      by_cases y : x.1 = 0 ∧ x.2.1 = i
      · have e2 : unM S' i ((N + m) + 1) = (2, i, S' 248 ((N + m : Nat) : Int), S' 249 ((N + m : Nat) : Int)) :: unM S' i (N + m) := if_pos (by rw [a, b]; exact y)
        have e3 : rq i x = true := by unfold rq; rw [decide_eq_true y.1, decide_eq_true y.2]; rfl
        rw [e2, List.filter_cons_of_pos e3, List.length_cons, ih]
        show _ + 1 = _ + (_ + 1)
        omega
      · have e2 : unM S' i ((N + m) + 1) = unM S' i (N + m) := if_neg (by rw [a, b]; exact y)
        have e3 : ¬ rq i x = true := fun z => by
          unfold rq at z
          rw [Bool.and_eq_true] at z
          exact y ⟨of_decide_eq_true z.1, of_decide_eq_true z.2⟩
        rw [e2, List.filter_cons_of_neg e3, ih]
        rfl
  have := step L.length (Nat.le_refl _)
  rw [List.take_length] at this
  exact this
theorem wN_X {j : Nat} (h44 : S 100 44 = N) (h : MlX S S' N L) : wN S' j = wN S j + (L.filter (rq j)).length := by
  have e : S' 100 44 = ((N + L.length : Nat) : Int) := h.2.1
  unfold wN
  rw [e, h44, Int.toNat_natCast, Int.toNat_natCast]
  exact un_X h
theorem WrK_X {j : Nat} {x : Int × Int} (h44 : S 100 44 = N) (h : MlX S S' N L) : WrK S' j x ↔ WrK S j x ∨ ((0 : Int), (j : Int), x.1, x.2) ∈ L := by
  have e : S' 100 44 = ((N + L.length : Nat) : Int) := h.2.1
  obtain ⟨-, -, h3, h4⟩ := h
  constructor
  · rintro ⟨r, r0, r1, r2, r3, r4, r5⟩
    rw [e] at r1
    by_cases y : r < N
    · obtain ⟨a, b, c, d⟩ := h3 r (by omega)
      exact Or.inl ⟨r, r0, by omega, a.symm.trans r2, b.symm.trans r3, c.symm.trans r4, d.symm.trans r5⟩
    · obtain ⟨m, hm⟩ : ∃ m : Nat, r = ((N + m : Nat) : Int) := ⟨(r - N).toNat, by omega⟩
      have lm : m < L.length := by omega
      obtain ⟨z, hz⟩ : ∃ z, L[m]? = some z := ⟨_, List.getElem?_eq_getElem lm⟩
      obtain ⟨a, b, c, d⟩ := h4 m z hz
      rw [hm] at r2 r3 r4 r5
      refine Or.inr ?_
      have ez : z = ((0 : Int), (j : Int), x.1, x.2) := by
        obtain ⟨z1, z2, z3, z4⟩ := z
        have a : S' 246 ((N + m : Nat) : Int) = z1 := a
        have b : S' 247 ((N + m : Nat) : Int) = z2 := b
        have c : S' 248 ((N + m : Nat) : Int) = z3 := c
        have d : S' 249 ((N + m : Nat) : Int) = z4 := d
        rw [← a, ← b, ← c, ← d, r2, r3, r4, r5]
      rw [← ez]
      exact List.mem_of_getElem? hz
  · rintro (⟨r, r0, r1, r2, r3, r4, r5⟩ | hx)
    · obtain ⟨a, b, c, d⟩ := h3 r (by omega)
      exact ⟨r, r0, by omega, a.trans r2, b.trans r3, c.trans r4, d.trans r5⟩
    · obtain ⟨m, hm⟩ := List.getElem?_of_mem hx
      obtain ⟨a, b, c, d⟩ := h4 m _ hm
      have lm : m < L.length := by
        obtain ⟨z, -⟩ := List.getElem?_eq_some_iff.mp hm
        exact z
      exact ⟨((N + m : Nat) : Int), by omega, by omega, a, b, c, d⟩
theorem wrM_own {i : Int} : ∀ L : List (Int × Int), ((wrM i L).filter (rq i)).length = L.length
  | [] => rfl
  | x :: l => by
    have e : rq i (0, i, x.1, x.2) = true := by unfold rq; rw [decide_eq_true rfl, decide_eq_true rfl]; rfl
    show (List.filter (rq i) ((0, i, x.1, x.2) :: wrM i l)).length = _
    rw [List.filter_cons_of_pos e, List.length_cons, wrM_own l, List.length_cons]
theorem wrM_oth {i j : Int} (h : i ≠ j) : ∀ L : List (Int × Int), ((wrM i L).filter (rq j)).length = 0
  | [] => rfl
  | x :: l => by
    have e : ¬ rq j (0, i, x.1, x.2) = true := fun z => by
      unfold rq at z
      rw [Bool.and_eq_true] at z
      exact h (of_decide_eq_true z.2)
    show (List.filter (rq j) ((0, i, x.1, x.2) :: wrM i l)).length = _
    rw [List.filter_cons_of_neg e, wrM_oth h l]
end
