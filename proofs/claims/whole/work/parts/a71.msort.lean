/-! the reference sorts its writes -/
section
variable {I : IT}
theorem wle_tot {x y : Int × Int} : wle x y ∨ wle y x := by
  unfold wle; omega
theorem wle_anti {x y : Int × Int} (h1 : wle x y) (h2 : wle y x) : x = y := by
  unfold wle at *
  exact Prod.ext (by omega) (by omega)
theorem shG_le {S : IT} {m : Nat} {t key : Int} : (mShG S ((m : Int) + 1) t key → wle (t, key) (S 242 (m : Int), S 243 (m : Int))) ∧ (¬ mShG S ((m : Int) + 1) t key → wle (S 242 (m : Int), S 243 (m : Int)) (t, key)) := by
  have e : (m : Int) + 1 - 1 = m := by omega
  unfold mShG wle
  rw [e]
  constructor
  · intro h; show t < S 242 m ∨ (t = S 242 m ∧ key ≤ S 243 m); omega
  · intro h; show S 242 m < t ∨ (S 242 m = t ∧ S 243 m ≤ key); omega
theorem mPut_at {S : IT} {j : Nat} {t key : Int} : mPut S j t key 242 (j : Int) = t ∧ mPut S j t key 243 (j : Int) = key ∧ ∀ q : Nat, q ≠ j → mPut S j t key 242 (q : Int) = S 242 (q : Int) ∧ mPut S j t key 243 (q : Int) = S 243 (q : Int) := by
  unfold mPut
  refine ⟨by rw [up2_o _ _ _ _ (by decide), up2_eq], up2_eq _ _ _ _, fun q hq => ⟨by rw [up2_o _ _ _ _ (by decide), up2_k _ _ _ _ (by omega)], by rw [up2_k _ _ _ _ (by omega), up2_o _ _ _ _ (by decide)]⟩⟩
theorem shL {t key : Int} : ∀ (m : Nat) (S : IT), (wtL S m).Pairwise wle → (wtL (mSh t key m S) (m + 1)).Perm ((t, key) :: wtL S m) ∧ (wtL (mSh t key m S) (m + 1)).Pairwise wle ∧ ∀ j : Nat, m < j → mSh t key m S 242 (j : Int) = S 242 (j : Int) ∧ mSh t key m S 243 (j : Int) = S 243 (j : Int) := by
  intro m
  induction m with
  | zero =>
    intro S _
    obtain ⟨a, b, c⟩ := mPut_at (S := S) (j := 0) (t := t) (key := key)
    have e : mSh t key 0 S = mPut S ((0 : Nat) : Int) t key := rfl
    rw [e]
    have el : wtL (mPut S ((0 : Nat) : Int) t key) (0 + 1) = [(t, key)] := by
      rw [wtL_succ, a, b]; rfl
    rw [el]
    exact ⟨List.Perm.refl _, List.pairwise_singleton _ _, fun j hj => c j (by omega)⟩
  | succ m ih =>
    intro S hS
    rw [wtL_succ] at hS
    obtain ⟨p1, p2, p3⟩ := List.pairwise_append.mp hS
    have top : ∀ x ∈ wtL S m, wle x (S 242 (m : Int), S 243 (m : Int)) := fun x hx => p3 x hx _ (List.mem_singleton.mpr rfl)
    by_cases g : mShG S ((m : Int) + 1) t key
    · have e : mSh t key (m + 1) S = mSh t key m (up2 (up2 S 242 ((m : Int) + 1) (S 242 ((m : Int) + 1 - 1))) 243 ((m : Int) + 1) (S 243 ((m : Int) + 1 - 1))) := mSh_yes g
      rw [show (m : Int) + 1 - 1 = m by omega] at e
      rw [e]
      have eL : wtL (up2 (up2 S 242 ((m : Int) + 1) (S 242 (m : Int))) 243 ((m : Int) + 1) (S 243 (m : Int))) m = wtL S m := wtL_of (fun j hj => ⟨by rw [up2_o _ _ _ _ (by decide), up2_k _ _ _ _ (by omega)], by rw [up2_k _ _ _ _ (by omega), up2_o _ _ _ _ (by decide)]⟩)
      obtain ⟨q1, q2, q3⟩ := ih (up2 (up2 S 242 ((m : Int) + 1) (S 242 (m : Int))) 243 ((m : Int) + 1) (S 243 (m : Int))) (by rw [eL]; exact p1)
      rw [eL] at q1
      have q4 := q3 (m + 1) (by omega)
      have z1 : up2 (up2 S 242 ((m : Int) + 1) (S 242 (m : Int))) 243 ((m : Int) + 1) (S 243 (m : Int)) 242 ((m + 1 : Nat) : Int) = S 242 (m : Int) := by
        rw [up2_o _ _ _ _ (by decide), show ((m + 1 : Nat) : Int) = (m : Int) + 1 by omega, up2_eq]
      have z2 : up2 (up2 S 242 ((m : Int) + 1) (S 242 (m : Int))) 243 ((m : Int) + 1) (S 243 (m : Int)) 243 ((m + 1 : Nat) : Int) = S 243 (m : Int) := by
        rw [show ((m + 1 : Nat) : Int) = (m : Int) + 1 by omega, up2_eq]
      rw [z1, z2] at q4
      have hx := shG_le.1 g
      refine ⟨?_, ?_, fun j hj => ?_⟩
      · rw [wtL_succ, q4.1, q4.2, wtL_succ (W := S) (n := m)]
        exact (q1.append_right _)
      · rw [wtL_succ, q4.1, q4.2]
        refine List.pairwise_append.mpr ⟨q2, List.pairwise_singleton _ _, fun x hx1 y hy => ?_⟩
        rw [List.mem_singleton.mp hy]
        rcases List.mem_cons.mp (q1.mem_iff.mp hx1) with h | h
        · rw [h]; exact hx
        · exact top x h
      · have := q3 j (by omega)
        refine ⟨this.1.trans ?_, this.2.trans ?_⟩
        · rw [up2_o _ _ _ _ (by decide), up2_k _ _ _ _ (by omega)]
        · rw [up2_k _ _ _ _ (by omega), up2_o _ _ _ _ (by decide)]
    · have e : mSh t key (m + 1) S = mPut S ((m : Int) + 1) t key := mSh_no g
      rw [e, show (m : Int) + 1 = ((m + 1 : Nat) : Int) by omega]
      obtain ⟨a, b, c⟩ := mPut_at (S := S) (j := m + 1) (t := t) (key := key)
      have hx := shG_le.2 g
      have el : wtL (mPut S ((m + 1 : Nat) : Int) t key) (m + 1 + 1) = wtL S (m + 1) ++ [(t, key)] := by
        rw [wtL_succ, a, b, wtL_of (W := S) (fun j hj => c j (by omega))]
      rw [el]
      refine ⟨List.perm_append_comm, ?_, fun j hj => c j (by omega)⟩
      rw [wtL_succ]
      refine List.pairwise_append.mpr ⟨hS, List.pairwise_singleton _ _, fun x hx1 y hy => ?_⟩
      rw [List.mem_singleton.mp hy]
      rcases List.mem_append.mp hx1 with h | h
      · exact wle_tr (top x h) hx
      · rw [List.mem_singleton.mp h]; exact hx
theorem sortL : ∀ n : Nat, (wtL (mSortN I n) (n + 1)).Perm (wtL I (n + 1)) ∧ (wtL (mSortN I n) (n + 1)).Pairwise wle ∧ ∀ j : Nat, n < j → mSortN I n 242 (j : Int) = I 242 (j : Int) ∧ mSortN I n 243 (j : Int) = I 243 (j : Int) := by
  intro n
  induction n with
  | zero =>
    refine ⟨List.Perm.refl _, ?_, fun j _ => ⟨rfl, rfl⟩⟩
    have : wtL (mSortN I 0) (0 + 1) = [(I 242 ((0 : Nat) : Int), I 243 ((0 : Nat) : Int))] := by rw [wtL_succ]; rfl
    rw [this]
    exact List.pairwise_singleton _ _
  | succ n ih =>
    obtain ⟨a, b, c⟩ := ih
    have h := shL (t := mSortN I n 242 ((n : Int) + 1)) (key := mSortN I n 243 ((n : Int) + 1)) (n + 1) (mSortN I n) b
    have e : mSortN I (n + 1) = mSh (mSortN I n 242 ((n : Int) + 1)) (mSortN I n 243 ((n : Int) + 1)) (n + 1) (mSortN I n) := rfl
    rw [← e] at h
    obtain ⟨h1, h2, h3⟩ := h
    have cn := c (n + 1) (by omega)
    rw [show ((n + 1 : Nat) : Int) = (n : Int) + 1 by omega] at cn
    refine ⟨?_, h2, fun j hj => ⟨(h3 j hj).1.trans (c j (by omega)).1, (h3 j hj).2.trans (c j (by omega)).2⟩⟩
    refine h1.trans ?_
    rw [wtL_succ (n := n + 1), cn.1, cn.2, show ((n + 1 : Nat) : Int) = (n : Int) + 1 by omega]
    exact (List.Perm.cons _ a).trans (List.perm_append_comm (l₁ := [_]))
/-- the writes of a delete, sorted -/
theorem wdE_list {X : IT} {i s : Int} {n : Nat} (h41 : mWd i s 384 X 100 41 = n) : (wtL (mWdE i s X) n).Perm (wtL (mWd i s 384 X) n) ∧ (wtL (mWdE i s X) n).Pairwise wle := by
  unfold mWdE
  rw [h41]
  cases n with
  | zero => exact ⟨List.Perm.refl _, List.Pairwise.nil⟩
  | succ n =>
    have := sortL (I := mWd i s 384 X) n
    rw [show (((n + 1 : Nat) : Int) - 1).toNat = n by omega]
    exact ⟨this.1, this.2.1⟩
theorem sorted_eq {L M : List (Int × Int)} (h1 : L.Pairwise wle) (h2 : M.Pairwise wle) (hp : L.Perm M) : L = M := List.Perm.eq_of_pairwise (fun a b _ _ x y => wle_anti x y) h1 h2 hp
end
