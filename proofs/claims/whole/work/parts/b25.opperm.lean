/-! what an operator gives does not hang on the order of its rows; what the rows weigh -/
section
theorem snoc_ind {α : Type} {p : List α → Prop} (h0 : p []) (h1 : ∀ L r, p L → p (L ++ [r])) : ∀ L, p L := by
  have h : ∀ M : List α, p M.reverse := by
    intro M
    induction M with
    | nil => exact h0
    | cons x xs ih => rw [List.reverse_cons]; exact h1 _ _ ih
  intro L
  have := h L.reverse
  rw [List.reverse_reverse] at this
  exact this
/-- what a value weighs, a row, rows -/
def av (v : Int) : Int := if v = -2147483648 then 0 else if v < 0 then -v else v
def rm : List Int → Int
  | [] => 1
  | v :: r => if rm r < av v then av v else rm r
def tw : List (List Int) → Int
  | [] => 0
  | r :: L => rm r + tw L
theorem av_nn (v : Int) : 0 ≤ av v := by unfold av; split <;> (try split) <;> omega
theorem rm_1 : ∀ r : List Int, 1 ≤ rm r := by
  intro r
  induction r with
  | nil => exact Int.le_refl _
  | cons v r ih => show 1 ≤ (if rm r < av v then av v else rm r); split <;> omega
theorem rm_mem : ∀ {r : List Int} {v : Int}, v ∈ r → av v ≤ rm r := by
  intro r
  induction r with
  | nil => intro v h; cases h
  | cons x r ih =>
    intro v h
    show av v ≤ (if rm r < av x then av x else rm r)
    rcases List.mem_cons.mp h with e | e
    · rw [e]; split <;> omega
    · have := ih e; split <;> omega
theorem rm_le : ∀ {r : List Int} {b : Int}, 1 ≤ b → (∀ v ∈ r, av v ≤ b) → rm r ≤ b := by
  intro r
  induction r with
  | nil => intro b h _; exact h
  | cons x r ih =>
    intro b h g
    have a := g x List.mem_cons_self
    have c := ih h (fun v hv => g v (List.mem_cons_of_mem _ hv))
    show (if rm r < av x then av x else rm r) ≤ b
    split <;> omega
theorem nth_av (r : List Int) (i : Int) : av (nth r i) ≤ rm r := by
  unfold nth
  by_cases h : i.toNat < r.length
  · have e : r.getD i.toNat 0 = r[i.toNat] := by rw [List.getD_eq_getElem?_getD, List.getElem?_eq_getElem h]; rfl
    rw [e]; exact rm_mem (List.getElem_mem h)
  · have e : r.getD i.toNat 0 = 0 := by rw [List.getD_eq_getElem?_getD, List.getElem?_eq_none (by omega)]; rfl
    rw [e]
    have := rm_1 r
    have : av 0 = 0 := by decide
    omega
theorem tw_nn : ∀ L : List (List Int), 0 ≤ tw L := by
  intro L
  induction L with
  | nil => exact Int.le_refl _
  | cons r L ih => have := rm_1 r; show 0 ≤ rm r + tw L; omega
theorem tw_len : ∀ L : List (List Int), (L.length : Int) ≤ tw L := by
  intro L
  induction L with
  | nil => exact Int.le_refl _
  | cons r L ih =>
    have := rm_1 r
    show ((L.length + 1 : Nat) : Int) ≤ rm r + tw L
    omega
theorem tw_app : ∀ (L M : List (List Int)), tw (L ++ M) = tw L + tw M := by
  intro L M
  induction L with
  | nil => show tw M = 0 + tw M; omega
  | cons r L ih => show rm r + tw (L ++ M) = rm r + tw L + tw M; rw [ih]; omega
theorem tw_perm {L M : List (List Int)} (h : L.Perm M) : tw L = tw M := by
  induction h with
  | nil => rfl
  | cons x _ ih => show rm x + _ = rm x + _; rw [ih]
  | swap x y l => show rm y + (rm x + tw l) = rm x + (rm y + tw l); omega
  | trans _ _ a b => exact a.trans b
theorem tw_mem {L : List (List Int)} {r : List Int} (h : r ∈ L) : rm r ≤ tw L := by
  induction L with
  | nil => cases h
  | cons x L ih =>
    have a := tw_nn L
    have b := rm_1 x
    show rm r ≤ rm x + tw L
    rcases List.mem_cons.mp h with e | e
    · rw [e]; omega
    · have := ih e; omega
theorem tw_sub {L M : List (List Int)} (h : L.Sublist M) : tw L ≤ tw M := by
  induction h with
  | slnil => exact Int.le_refl _
  | cons a _ ih => have := rm_1 a; show _ ≤ rm a + _; omega
  | cons_cons a _ ih => show rm a + _ ≤ rm a + _; omega
theorem tw_map {f : List Int → List Int} {m : Int} (h0 : 0 ≤ m) : ∀ {L : List (List Int)}, (∀ r ∈ L, rm (f r) ≤ rm r + m) → tw (L.map f) ≤ tw L + m * L.length := by
  intro L
  induction L with
  | nil => intro _; show (0 : Int) ≤ 0 + m * 0; omega
  | cons r L ih =>
    intro h
    have a := h r List.mem_cons_self
    have b := ih (fun x hx => h x (List.mem_cons_of_mem _ hx))
    show rm (f r) + tw (L.map f) ≤ rm r + tw L + m * ((L.length + 1 : Nat) : Int)
    rw [show m * ((L.length + 1 : Nat) : Int) = m * L.length + m by rw [Int.natCast_add, Int.mul_add]; omega]
    omega
theorem rm_app (x y : List Int) : rm (x ++ y) ≤ rm x + rm y := by
  have a := rm_1 x
  have b := rm_1 y
  refine rm_le (by omega) (fun v hv => ?_)
  rcases List.mem_append.mp hv with h | h
  · have := rm_mem h; omega
  · have := rm_mem h; omega
theorem av_null : av (-2147483648) = 0 := by decide
theorem rm_nulR (x : List Int) (w : Nat) : rm (x ++ nul w) ≤ rm x := by
  refine rm_le (rm_1 x) (fun v hv => ?_)
  rcases List.mem_append.mp hv with h | h
  · exact rm_mem h
  · have e : v = -2147483648 := (List.mem_replicate.mp h).2
    have := rm_1 x
    rw [e, av_null]; omega
theorem rm_nulL (x : List Int) (w : Nat) : rm (nul w ++ x) ≤ rm x := by
  refine rm_le (rm_1 x) (fun v hv => ?_)
  rcases List.mem_append.mp hv with h | h
  · have e : v = -2147483648 := (List.mem_replicate.mp h).2
    have := rm_1 x
    rw [e, av_null]; omega
  · exact rm_mem h
theorem flt_sub {p : List Int → Prop} (L : List (List Int)) : (flt p L).Sublist L := List.filter_sublist
theorem flt_perm {p : List Int → Prop} {L M : List (List Int)} (h : L.Perm M) : (flt p L).Perm (flt p M) := List.Perm.filter _ h
theorem flt_ext {p q : List Int → Prop} {L : List (List Int)} (h : ∀ r ∈ L, (p r ↔ q r)) : flt p L = flt q L := by
  unfold flt
  refine List.filter_congr (fun r hr => ?_)
  rw [bIc (h r hr)]
theorem mem_flt {p : List Int → Prop} {L : List (List Int)} {r : List Int} : r ∈ flt p L ↔ r ∈ L ∧ p r := by
  unfold flt
  rw [List.mem_filter, decide_eq_true_iff]
  constructor
  · rintro ⟨a, b⟩
    refine ⟨a, Classical.byContradiction (fun z => ?_)⟩
    rw [bI0 z] at b
    cases b
  · rintro ⟨a, b⟩
    exact ⟨a, bI1 b⟩
theorem flt_mono {p q : List Int → Prop} : ∀ {L : List (List Int)}, (∀ r ∈ L, p r → q r) → (flt p L).length ≤ (flt q L).length := by
  intro L
  induction L with
  | nil => intro _; exact Nat.le_refl _
  | cons r L ih =>
    intro h
    have a := ih (fun x hx => h x (List.mem_cons_of_mem _ hx))
    have e : ∀ p : List Int → Prop, flt p (r :: L) = flt p [r] ++ flt p L := fun p => flt_app [r] L
    rw [e p, e q, List.length_append, List.length_append]
    have e1 : ∀ p : List Int → Prop, flt p [r] = flt p ([] ++ [r]) := fun p => rfl
    by_cases hp : p r
    · rw [e1 p, e1 q, flt_yes hp, flt_yes (h r List.mem_cons_self hp), flt_nil, flt_nil]
      show 1 + _ ≤ 1 + _
      omega
    · rw [e1 p, flt_no hp, flt_nil]
      show 0 + _ ≤ _
      omega
theorem flt_split {p : List Int → Prop} : ∀ L : List (List Int), (flt p L).length + (flt (fun r => ¬ p r) L).length = L.length := by
  intro L
  induction L with
  | nil => rfl
  | cons r L ih =>
    have e : ∀ p : List Int → Prop, flt p (r :: L) = flt p ([] ++ [r]) ++ flt p L := fun p => flt_app [r] L
    rw [e, e, List.length_append, List.length_append]
    by_cases hp : p r
    · rw [flt_yes hp, flt_no (p := fun r => ¬ p r) (fun z => z hp), flt_nil, flt_nil]
      show 1 + _ + (0 + _) = L.length + 1
      omega
    · rw [flt_no hp, flt_yes (p := fun r => ¬ p r) hp, flt_nil, flt_nil]
      show 0 + _ + (1 + _) = L.length + 1
      omega
end
