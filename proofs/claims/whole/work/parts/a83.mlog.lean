/-! records more, in the reference -/
section
variable {S S' I : IT}
abbrev Rc : Type := Int × Int × Int × Int
def MlX (S S' : IT) (N : Nat) (L : List Rc) : Prop := lgFr S S' ∧ S' 100 44 = ((N + L.length : Nat) : Int) ∧ (∀ r : Int, ¬ ((N : Int) ≤ r ∧ r < N + L.length) → S' 246 r = S 246 r ∧ S' 247 r = S 247 r ∧ S' 248 r = S 248 r ∧ S' 249 r = S 249 r) ∧ ∀ (j : Nat) x, L[j]? = some x → S' 246 ((N + j : Nat) : Int) = x.1 ∧ S' 247 ((N + j : Nat) : Int) = x.2.1 ∧ S' 248 ((N + j : Nat) : Int) = x.2.2.1 ∧ S' 249 ((N + j : Nat) : Int) = x.2.2.2
theorem MlX.rf {N : Nat} (h : S 100 44 = N) : MlX S S N [] := ⟨fun _ _ _ _ => rfl, h, fun _ _ => ⟨rfl, rfl, rfl, rfl⟩, fun j x hx => by simp at hx⟩
theorem MlX.one {N : Nat} {k i t y : Int} (h : S 100 44 = N) : MlX S (mnotes S k i t y) N [(k, i, t, y)] := by
  unfold mnotes
  rw [h]
  refine ⟨fun o q h1 h2 => ?_, ?_, fun r hr => ?_, fun j x hx => ?_⟩
  · rw [show up2 (up2 (up2 (up2 (up2 S 246 N k) 247 N i) 248 N t) 249 N y) 100 44 (N + 1) o q = up2 (up2 (up2 (up2 S 246 N k) 247 N i) 248 N t) 249 N y o q from if_neg (fun z => by omega), up2_o _ _ _ _ (by omega), up2_o _ _ _ _ (by omega), up2_o _ _ _ _ (by omega), up2_o _ _ _ _ (by omega)]
  · rw [up2_eq]; simp
  · have hr' : r ≠ (N : Int) := fun z => hr (by simp; omega)
    refine ⟨?_, ?_, ?_, ?_⟩
    · rw [up2_o _ _ _ _ (by decide), up2_o _ _ _ _ (by decide), up2_o _ _ _ _ (by decide), up2_o _ _ _ _ (by decide), up2_k _ _ _ _ hr']
    · rw [up2_o _ _ _ _ (by decide), up2_o _ _ _ _ (by decide), up2_o _ _ _ _ (by decide), up2_k _ _ _ _ hr', up2_o _ _ _ _ (by decide)]
    · rw [up2_o _ _ _ _ (by decide), up2_o _ _ _ _ (by decide), up2_k _ _ _ _ hr', up2_o _ _ _ _ (by decide), up2_o _ _ _ _ (by decide)]
    · rw [up2_o _ _ _ _ (by decide), up2_k _ _ _ _ hr', up2_o _ _ _ _ (by decide), up2_o _ _ _ _ (by decide), up2_o _ _ _ _ (by decide)]
  · match j, hx with
    | 0, hx =>
      have e : (k, i, t, y) = x := Option.some.inj hx
      rw [← e, Nat.add_zero]
      refine ⟨?_, ?_, ?_, ?_⟩
      · rw [up2_o _ _ _ _ (by decide), up2_o _ _ _ _ (by decide), up2_o _ _ _ _ (by decide), up2_o _ _ _ _ (by decide), up2_eq]
      · rw [up2_o _ _ _ _ (by decide), up2_o _ _ _ _ (by decide), up2_o _ _ _ _ (by decide), up2_eq]
      · rw [up2_o _ _ _ _ (by decide), up2_o _ _ _ _ (by decide), up2_eq]
      · rw [up2_o _ _ _ _ (by decide), up2_eq]
    | j + 1, hx => simp at hx
theorem MlX.tr {S1 S2 : IT} {N : Nat} {L1 L2 : List Rc} (h1 : MlX S S1 N L1) (h2 : MlX S1 S2 (N + L1.length) L2) : MlX S S2 N (L1 ++ L2) := by
  obtain ⟨a1, a2, a3, a4⟩ := h1
  obtain ⟨b1, b2, b3, b4⟩ := h2
  refine ⟨fun o k x y => (b1 o k x y).trans (a1 o k x y), by rw [b2, List.length_append, Nat.add_assoc], fun r hr => ?_, fun j x hx => ?_⟩
  · rw [List.length_append] at hr
    have u := a3 r (fun z => hr ⟨by omega, by omega⟩)
    have v := b3 r (fun z => hr ⟨by omega, by omega⟩)
    exact ⟨v.1.trans u.1, v.2.1.trans u.2.1, v.2.2.1.trans u.2.2.1, v.2.2.2.trans u.2.2.2⟩
  · by_cases hj : j < L1.length
    · rw [List.getElem?_append_left hj] at hx
      have u := a4 j x hx
      have v := b3 ((N + j : Nat) : Int) (by omega)
      exact ⟨v.1.trans u.1, v.2.1.trans u.2.1, v.2.2.1.trans u.2.2.1, v.2.2.2.trans u.2.2.2⟩
    · rw [List.getElem?_append_right (by omega)] at hx
      have v := b4 (j - L1.length) x hx
      rw [show N + L1.length + (j - L1.length) = N + j by omega] at v
      exact v
/-- the records of writes -/
def wrM (i : Int) (L : List (Int × Int)) : List Rc := L.map (fun x => (0, i, x.1, x.2))
theorem mLog_X {i : Int} {N : Nat} (h : S 100 44 = N) : ∀ n : Nat, MlX S (mLog S i n) N (wrM i (wtL S n)) := by
  intro n
  induction n with
  | zero => exact MlX.rf h
  | succ n ih =>
    have e44 : mLog S i n 100 44 = ((N + (wrM i (wtL S n)).length : Nat) : Int) := ih.2.1
    have m1 := MlX.one (S := mLog S i n) (k := 0) (i := i) (t := mLog S i n 242 n) (y := mLog S i n 243 n) e44
    rw [ih.1 242 n (by omega) (Or.inl (by decide)), ih.1 243 n (by omega) (Or.inl (by decide))] at m1
    have := ih.tr m1
    rw [wtL_succ]
    unfold wrM at this ⊢
    rw [List.map_append]
    have e : mLog S i (n + 1) = mnotes (mLog S i n) 0 i (S 242 n) (S 243 n) := by
      rw [← mLog_eq, ih.1 242 n (by omega) (Or.inl (by decide)), ih.1 243 n (by omega) (Or.inl (by decide))]
    rw [e]
    exact this
/-- the records of an undoing -/
noncomputable def unM (S : IT) (i : Int) : Nat → List Rc
  | 0 => []
  | n + 1 => if S 246 n = 0 ∧ S 247 n = i then (2, i, S 248 n, S 249 n) :: unM S i n else unM S i n
theorem mAb_X {i : Int} {N : Nat} : ∀ (n : Nat) (T : IT) (N' : Nat) (c : Int), n ≤ N → N ≤ N' → T 100 44 = N' → (∀ r : Int, r < N → T 246 r = S 246 r ∧ T 247 r = S 247 r ∧ T 248 r = S 248 r ∧ T 249 r = S 249 r) → MlX T (mAb i n T c).1 N' (unM S i n) ∧ (mAb i n T c).2 = c + ((unM S i n).length : Int) := by
  intro n
  induction n with
  | zero =>
    intro T N' c _ _ h44 _
    exact ⟨MlX.rf h44, by show c = c + ((0 : Nat) : Int); omega⟩
  | succ n ih =>
    intro T N' c hn hN h44 hT
    have hr := hT n (by omega)
    by_cases h : S 246 n = 0 ∧ S 247 n = i
    · have e1 : mAb i (n + 1) T c = mAb i n (mnotes T 2 i (T 248 n) (T 249 n)) (c + 1) := if_pos (by rw [hr.1, hr.2.1]; exact h)
      have e2 : unM S i (n + 1) = (2, i, S 248 n, S 249 n) :: unM S i n := if_pos h
      rw [e1, e2, hr.2.2.1, hr.2.2.2]
      have m1 := MlX.one (S := T) (k := 2) (i := i) (t := S 248 n) (y := S 249 n) h44
      obtain ⟨a, b⟩ := ih (mnotes T 2 i (S 248 n) (S 249 n)) (N' + 1) (c + 1) (by omega) (by omega) m1.2.1 (fun r hr' => by
        have u := m1.2.2.1 r (by simp; omega)
        have v := hT r hr'
        exact ⟨u.1.trans v.1, u.2.1.trans v.2.1, u.2.2.1.trans v.2.2.1, u.2.2.2.trans v.2.2.2⟩)
      refine ⟨m1.tr a, ?_⟩
      rw [b, List.length_cons]; omega
    · have e1 : mAb i (n + 1) T c = mAb i n T c := if_neg (by rw [hr.1, hr.2.1]; exact h)
      have e2 : unM S i (n + 1) = unM S i n := if_neg h
      rw [e1, e2]
      exact ih T N' c (by omega) hN h44 hT
/-- what an abort writes -/
noncomputable def abM (S : IT) (i : Int) (N : Nat) : List Rc := unM S i N ++ [(3, i, -2147483648, -2147483648)]
theorem mAborts_X {i : Int} {N : Nat} (h : S 100 44 = N) : ∃ T, MlX S T N (abM S i N) ∧ mAborts S i = mends T i 3 ∧ mAbortsN S i = ((unM S i N).length : Int) := by
  obtain ⟨a, b⟩ := mAb_X (S := S) (i := i) (N := N) N S N 0 (Nat.le_refl _) (Nat.le_refl _) h (fun r _ => ⟨rfl, rfl, rfl, rfl⟩)
  have m1 := MlX.one (S := (mAb i N S 0).1) (k := 3) (i := i) (t := -2147483648) (y := -2147483648) a.2.1
  refine ⟨_, a.tr m1, ?_, ?_⟩
  · unfold mAborts
    rw [h]
    rfl
  · unfold mAbortsN
    rw [h, show ((N : Int)).toNat = N by omega, b]; omega
/-- the class's records are the reference's -/
def lgEq (I S : IT) (g N : Nat) : Prop := ∀ r : Nat, r < N → lgF I g r 0 = S 246 r ∧ lgF I g r 1 = S 247 r ∧ lgF I g r 2 = S 248 r ∧ lgF I g r 3 = S 249 r
theorem undL_eq {g : Nat} {i : Int} {N : Nat} (h : lgEq I S g N) : ∀ n : Nat, n ≤ N → undL I g i n 0 = (unM S i n).map (fun x => rcN x.1 x.2.1 x.2.2.1 x.2.2.2) := by
  intro n
  induction n with
  | zero => intro _; rfl
  | succ n ih =>
    intro hn
    obtain ⟨h0, h1, h2, h3⟩ := h n (by omega)
    by_cases c : S 246 n = 0 ∧ S 247 n = i
    · have e2 : unM S i (n + 1) = (2, i, S 248 n, S 249 n) :: unM S i n := if_pos c
      rw [undL_y0 (show lgW I g i n from ⟨h0.trans c.1, h1.trans c.2⟩), e2, ih (by omega), h2, h3]; rfl
    · have e2 : unM S i (n + 1) = unM S i n := if_neg c
      rw [undL_no (fun z => c ⟨h0.symm.trans z.1, h1.symm.trans z.2⟩), e2, ih (by omega)]
theorem unM_mem {i : Int} {x : Rc} : ∀ n : Nat, x ∈ unM S i n → x.1 = 2 ∧ x.2.1 = i ∧ ∃ r : Nat, r < n ∧ S 246 r = 0 ∧ S 247 r = i ∧ x.2.2.1 = S 248 r ∧ x.2.2.2 = S 249 r := by
  intro n
  induction n with
  | zero => intro h; cases h
  | succ n ih =>
    intro h
    by_cases c : S 246 n = 0 ∧ S 247 n = i
    · have e2 : unM S i (n + 1) = (2, i, S 248 n, S 249 n) :: unM S i n := if_pos c
      rw [e2] at h
      rcases List.mem_cons.mp h with e | h
      · rw [e]; exact ⟨rfl, rfl, n, by omega, c.1, c.2, rfl, rfl⟩
      · obtain ⟨a, b, r, d, e⟩ := ih h
        exact ⟨a, b, r, by omega, e⟩
    · have e2 : unM S i (n + 1) = unM S i n := if_neg c
      rw [e2] at h
      obtain ⟨a, b, r, d, e⟩ := ih h
      exact ⟨a, b, r, by omega, e⟩
/-- both logs longer by the same records -/
theorem lgEq_app {I1 S1 : IT} {g g' N : Nat} {L : List Rc} {Lc : List (Int → Int)} (h : lgEq I S g N) (hI : LgX I I1 g g' N Lc) (hS : MlX S S1 N L) (hl : Lc.length = L.length) (he : ∀ (j : Nat) x ρ, L[j]? = some x → Lc[j]? = some ρ → ρ 0 = x.1 ∧ ρ 1 = x.2.1 ∧ ρ 2 = x.2.2.1 ∧ ρ 3 = x.2.2.2) : lgEq I1 S1 g' (N + L.length) := by
  intro r hr
  by_cases c : r < N
  · obtain ⟨h0, h1, h2, h3⟩ := h r c
    have u := hS.2.2.1 r (by omega)
    have f := fun f f0 f1 => hI.1 r f c f0 f1
    rw [f 0 (by decide) (by decide), f 1 (by decide) (by decide), f 2 (by decide) (by decide), f 3 (by decide) (by decide), u.1, u.2.1, u.2.2.1, u.2.2.2]
    exact ⟨h0, h1, h2, h3⟩
  · have hj : r - N < L.length := by omega
    have e1 := List.getElem?_eq_getElem hj
    have hj' : r - N < Lc.length := by omega
    have e2 := List.getElem?_eq_getElem hj'
    have u := hS.2.2.2 (r - N) _ e1
    have v := hI.2.1 (r - N) _ e2
    have w := he _ _ _ e1 e2
    rw [show ((N + (r - N) : Nat) : Int) = (r : Int) by omega] at u v
    rw [v 0 (by decide) (by decide), v 1 (by decide) (by decide), v 2 (by decide) (by decide), v 3 (by decide) (by decide), u.1, u.2.1, u.2.2.1, u.2.2.2]
    exact w
end
