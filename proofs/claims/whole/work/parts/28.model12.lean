section
variable {K : KT} {P : PT} {J I : IT}
theorem cpyI_step2 {I : IT} {a b : Nat} {A B c : Int} (hab : a ≠ b) (h0 : 0 ≤ c) : up2 (cpyI I b B a A c) a (A + c) (cpyI I b B a A c b (B + c)) = cpyI I b B a A (c + 1) := by
  funext o k
  have e : cpyI I b B a A c b (B + c) = I b (B + c) := if_neg (fun z => hab z.1.symm)
  rw [e]
  unfold up2 cpyI
  by_cases h : o = a ∧ k = A + c
  · obtain ⟨h1, h2⟩ := h
    subst h1 h2
    rw [if_pos ⟨rfl, rfl⟩, if_pos ⟨rfl, by omega, by omega⟩, show A + c - A = c by omega]
  · rw [if_neg h]
    by_cases h2 : o = a ∧ A ≤ k ∧ k < A + c
    · rw [if_pos h2, if_pos ⟨h2.1, h2.2.1, by omega⟩]
    · rw [if_neg h2, if_neg (fun z => h ⟨z.1, Classical.byContradiction (fun q => h2 ⟨z.1, z.2.1, by omega⟩)⟩)]
/-- the writes of a statement go to the log: the first n -/
def mLog (I : IT) (i : Int) : Nat → IT
  | 0 => I
  | n + 1 => mnotes (mLog I i n) 0 i (mLog I i n 242 n) (mLog I i n 243 n)
theorem mLog_44 (I : IT) (i : Int) : ∀ n : Nat, mLog I i n 100 44 = I 100 44 + n := by
  intro n
  induction n with
  | zero => show I 100 44 = I 100 44 + 0; omega
  | succ n ih => show mnotes _ _ _ _ _ 100 44 = _; rw [mnotes_44, ih]; omega
theorem mnotes_fr {a b c d : Int} (o : Nat) (k : Int) (h1 : o < 246 ∨ 249 < o) (h2 : o ≠ 100 ∨ k ≠ 44) : mnotes I a b c d o k = I o k := by
  unfold mnotes up2
  rw [if_neg (fun z => h2.elim (fun q => q z.1) (fun q => q z.2)), if_neg (fun z => by omega), if_neg (fun z => by omega), if_neg (fun z => by omega), if_neg (fun z => by omega)]
theorem mLog_fr {i : Int} (n : Nat) (o : Nat) (k : Int) (h1 : o < 246 ∨ 249 < o) (h2 : o ≠ 100 ∨ k ≠ 44) : mLog I i n o k = I o k := by
  induction n with
  | zero => rfl
  | succ n ih => exact (mnotes_fr o k h1 h2).trans ih
theorem mLog_eq (I : IT) (i : Int) (n : Nat) : mnotes (mLog I i n) 0 i (mLog I i n 242 n) (mLog I i n 243 n) = mLog I i (n + 1) := rfl
end
