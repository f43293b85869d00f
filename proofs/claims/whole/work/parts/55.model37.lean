section
variable {K : KT} {P : PT} {J I : IT} {Q : PQ}
/-- results, the last one first: widths and rows -/
abbrev STK : Type := List (Nat × List (List Int))
def stA : STK → Int
  | [] => 0
  | e :: st => stA st + (e.1 : Int) * (e.2.length : Int)
def StkR (T : IT) : STK → Prop
  | [] => True
  | e :: st => (T 272 st.length = stA st ∧ T 273 st.length = e.2.length ∧ T 274 st.length = e.1 ∧ seg T 270 (stA st) e.1 e.2.length = e.2) ∧ StkR T st
def stB : STK → Prop
  | [] => True
  | e :: st => (e.1 ≤ 10 ∧ e.2.length ≤ 512) ∧ stB st
theorem stA_rg : ∀ st : STK, stB st → 0 ≤ stA st ∧ stA st ≤ 5120 * st.length := by
  intro st
  induction st with
  | nil => intro _; exact ⟨Int.le_refl _, by show (0 : Int) ≤ 5120 * 0; omega⟩
  | cons e st ih =>
    intro h
    have a := ih h.2
    have b := mulNN (w := (e.1 : Int)) (k := (e.2.length : Int)) (by omega) (by omega)
    have c := mulUp (w := (e.1 : Int)) (k := (e.2.length : Int)) (W := 10) (n := 512) (by omega) (by omega) (by have := h.1.1; omega) (by have := h.1.2; omega)
    show 0 ≤ stA st + _ ∧ stA st + _ ≤ 5120 * ((st.length + 1 : Nat) : Int)
    omega
theorem StkR.of {T U : IT} : ∀ st : STK, stB st → StkR T st → (∀ (o : Nat) (q : Int), (o = 270 ∧ q < stA st) ∨ ((o = 272 ∨ o = 273 ∨ o = 274) ∧ q < st.length) → U o q = T o q) → StkR U st := by
  intro st
  induction st with
  | nil => intro _ _ _; exact trivial
  | cons e st ih =>
    intro hB h f
    have b := mulNN (w := (e.1 : Int)) (k := (e.2.length : Int)) (by omega) (by omega)
    have eA : stA (e :: st) = stA st + (e.1 : Int) * (e.2.length : Int) := rfl
    have eL : (((e :: st : STK).length : Nat) : Int) = (st.length : Int) + 1 := by show ((st.length + 1 : Nat) : Int) = _; omega
    refine ⟨⟨?_, ?_, ?_, ?_⟩, ih hB.2 h.2 (fun o q hq => f o q ?_)⟩
    · rw [f 272 _ (Or.inr ⟨Or.inl rfl, by omega⟩)]; exact h.1.1
    · rw [f 273 _ (Or.inr ⟨Or.inr (Or.inl rfl), by omega⟩)]; exact h.1.2.1
    · rw [f 274 _ (Or.inr ⟨Or.inr (Or.inr rfl), by omega⟩)]; exact h.1.2.2.1
    · rw [← h.1.2.2.2]
      rw [seg_len]
      exact seg_congr (fun q a c => f 270 _ (Or.inl ⟨rfl, by omega⟩))
    · rcases hq with ⟨h1, h2⟩ | ⟨h1, h2⟩
      · exact Or.inl ⟨h1, by omega⟩
      · exact Or.inr ⟨h1, by omega⟩
theorem mTop_stk {T : IT} {st : STK} (hB : stB st) (h : StkR T st) (hr : T 100 71 = st.length) : mTop T = stA st := by
  unfold mTop
  rw [hr]
  cases st with
  | nil => rfl
  | cons e st =>
    rw [show (((e :: st : STK).length : Nat) : Int) = (st.length : Int) + 1 by show ((st.length + 1 : Nat) : Int) = _; omega, if_neg (by omega), show (st.length : Int) + 1 - 1 = st.length by omega, h.1.1, h.1.2.1, h.1.2.2.1, Int.mul_comm]
    rfl
/-- one operator on the results -/
noncomputable def ev1 (sc : Int → Nat × List (List Int)) (op A B C nt : Int) (st : STK) : STK :=
  if op = 0 then sc A :: st else match st with
  | [] => []
  | e :: rest => if op ≤ 3 then (e.1, flt (stayP op A B C nt) e.2) :: rest
      else if op = 5 then (wk A e.1, keepL A e.1 e.2) :: rest
      else if op = 6 then (2, groupL B A C e.2) :: rest
      else match rest with
        | [] => []
        | d :: r2 => if op = 4 then ((if 2 < A then d.1 else d.1 + e.1), joinL A B C d.1 e.1 d.2 e.2) :: r2 else (e.1, cmbL A d.2 e.2) :: r2
/-- it fails -/
def ev1F (op A B : Int) (st : STK) : Prop := ∃ e rest, st = e :: rest ∧ ∃ z ∈ e.2, stayF op A B z
/-- an operator finds what it takes -/
def okS (op A B C : Int) (st : STK) : Prop :=
  (op = 0 → (0 ≤ A ∧ A < 6) ∧ st.length ≤ 2) ∧
  (op ≠ 0 → op ≤ 3 → ∃ e rest, st = e :: rest ∧ opIn op A B C e.1) ∧
  (op = 4 → ∃ e d rest, st = e :: d :: rest ∧ (2 < A → d.1 ≤ 10) ∧ (A ≤ 2 → d.1 + e.1 ≤ 10) ∧ (d.2.length : Int) * (e.2.length : Int) ≤ 512 ∧ (0 ≤ B ∧ B < d.1) ∧ (0 ≤ C ∧ C < e.1)) ∧
  (op = 5 → ∃ e rest, st = e :: rest ∧ 0 ≤ A ∧ A < 2 ^ e.1) ∧
  (op = 6 → ∃ e rest, st = e :: rest ∧ (A = -1 ∨ (0 ≤ A ∧ A < e.1)) ∧ (B = 0 ∨ (0 ≤ C ∧ C < e.1)) ∧ ∀ k : Nat, k < e.2.length → ∀ z ∈ groupL B A C (e.2.take (k + 1)), inR (nth z 1)) ∧
  (3 < op → op ≠ 4 → op ≠ 5 → op ≠ 6 → ∃ e d rest, st = e :: d :: rest ∧ d.1 = e.1)
theorem ev1_0 {sc : Int → Nat × List (List Int)} {op A B C nt : Int} {st : STK} (h : op = 0) : ev1 sc op A B C nt st = sc A :: st := if_pos h
theorem ev1_f {sc : Int → Nat × List (List Int)} {op A B C nt : Int} {e : Nat × List (List Int)} {rest : STK} (h : op ≠ 0) (h2 : op ≤ 3) : ev1 sc op A B C nt (e :: rest) = (e.1, flt (stayP op A B C nt) e.2) :: rest := (if_neg h).trans (if_pos h2)
theorem ev1_k {sc : Int → Nat × List (List Int)} {op A B C nt : Int} {e : Nat × List (List Int)} {rest : STK} (h : op = 5) : ev1 sc op A B C nt (e :: rest) = (wk A e.1, keepL A e.1 e.2) :: rest := (if_neg (by omega)).trans ((if_neg (by omega)).trans (if_pos h))
theorem ev1_g {sc : Int → Nat × List (List Int)} {op A B C nt : Int} {e : Nat × List (List Int)} {rest : STK} (h : op = 6) : ev1 sc op A B C nt (e :: rest) = (2, groupL B A C e.2) :: rest := (if_neg (by omega)).trans ((if_neg (by omega)).trans ((if_neg (by omega)).trans (if_pos h)))
theorem ev1_j {sc : Int → Nat × List (List Int)} {op A B C nt : Int} {e d : Nat × List (List Int)} {rest : STK} (h : op = 4) : ev1 sc op A B C nt (e :: d :: rest) = ((if 2 < A then d.1 else d.1 + e.1), joinL A B C d.1 e.1 d.2 e.2) :: rest := (if_neg (by omega)).trans ((if_neg (by omega)).trans ((if_neg (by omega)).trans ((if_neg (by omega)).trans (if_pos h))))
theorem ev1_c {sc : Int → Nat × List (List Int)} {op A B C nt : Int} {e d : Nat × List (List Int)} {rest : STK} (h3 : 3 < op) (h4 : op ≠ 4) (h5 : op ≠ 5) (h6 : op ≠ 6) : ev1 sc op A B C nt (e :: d :: rest) = (e.1, cmbL A d.2 e.2) :: rest := (if_neg (by omega)).trans ((if_neg (by omega)).trans ((if_neg (by omega)).trans ((if_neg (by omega)).trans (if_neg (by omega)))))
/-- what a table gives, for a role, in a state -/
noncomputable def scM (I : IT) (s y t : Int) : Nat × List (List Int) := ((I 201 t).toNat, scanK I s y t (I 201 t).toNat (I 214 (6 * s + t)).toNat)
/-- the results after k operators from x on -/
noncomputable def evK (I : IT) (s y x : Int) : Nat → STK
  | 0 => []
  | k + 1 => ev1 (scM I s y) (I 256 (x + k)) (I 257 (x + k)) (I 258 (x + k)) (I 259 (x + k)) (I 260 (x + k)) (evK I s y x k)
def evF (I : IT) (s y x : Int) : Nat → Prop
  | 0 => False
  | k + 1 => evF I s y x k ∨ ev1F (I 256 (x + k)) (I 257 (x + k)) (I 258 (x + k)) (evK I s y x k)
/-- evaluating: k operators are done -/
def EvI (I T : IT) (s y x : Int) (k : Nat) : Prop :=
  (∀ (o : Nat) (q : Int), o ≠ 270 → o ≠ 272 → o ≠ 273 → o ≠ 274 → ¬ (o = 100 ∧ (q = 71 ∨ q = 75)) → T o q = I o q) ∧ StkR T (evK I s y x k) ∧ T 100 71 = (evK I s y x k).length ∧ T 100 75 = bI (evF I s y x k)
theorem scanK_of {S : IT} {s y t : Int} {w : Nat} (h0 : S 100 8 = I 100 8) (h : ∀ o k, 209 ≤ o → o ≤ 215 → S o k = I o k) : ∀ n : Nat, scanK S s y t w n = scanK I s y t w n := by
  intro n
  induction n with
  | zero => rfl
  | succ n ih =>
    have e : mSeen S y s t n = mSeen I y s t n := mSeen_of h0 h
    have er : rowAt S 215 (mrow s t n) w = rowAt I 215 (mrow s t n) w := rowAt_congr (fun c _ _ => h 215 _ (by decide) (by decide))
    by_cases g : mSeen I y s t n
    · rw [scanK_yes g, scanK_yes (by rw [e]; exact g), ih, er]
    · rw [scanK_no g, scanK_no (by rw [e]; exact g), ih]
end
