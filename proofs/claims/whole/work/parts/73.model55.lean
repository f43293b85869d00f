section
variable {K : KT} {P : PT} {J I : IT} {Q : PQ}
/-- the filters of a block, in the order in which they are met -/
noncomputable def blkF (I : IT) (x : Int) : Nat → Int → Int → List (Int × Int)
  | 0, _, _ => []
  | f + 1, k, o => if bI (mInner I (x + k)) = 1 then blkF I x f (I 279 k) o ++ blkF I x f (I 280 k) (o + I 281 (I 279 k)) else if bI (isFlt (I 256 (x + k))) = 1 then (k, o) :: blkF I x f (I 279 k) o else []
theorem blkF_i {x k o : Int} {f : Nat} (h : mInner I (x + k)) : blkF I x (f + 1) k o = blkF I x f (I 279 k) o ++ blkF I x f (I 280 k) (o + I 281 (I 279 k)) := if_pos (bI1 h)
theorem blkF_f {x k o : Int} {f : Nat} (h : ¬ mInner I (x + k)) (h2 : isFlt (I 256 (x + k))) : blkF I x (f + 1) k o = (k, o) :: blkF I x f (I 279 k) o := (if_neg (by rw [bI0 h]; decide)).trans (if_pos (bI1 h2))
theorem blkF_l {x k o : Int} {f : Nat} (h : ¬ mInner I (x + k)) (h2 : ¬ isFlt (I 256 (x + k))) : blkF I x (f + 1) k o = [] := (if_neg (by rw [bI0 h]; decide)).trans (if_neg (by rw [bI0 h2]; decide))
noncomputable def pF (I : IT) (x : Int) (p : PND) : List (Int × Int) := p.flatMap (fun e => blkF I x e.1 e.2.1 e.2.2)
/-- a filter by a value lessens the rows of a leaf that is a table's -/
def psB (I : IT) (q k c : Int) : Int := if I 258 (12 * (q + 1) + k) = 1 ∧ I 260 (12 * (q + 1) + k) = 0 then mVals I q c else 3
noncomputable def psF (I : IT) (q : Int) (J : IT) (e : Int × Int) : IT := if I 256 (12 * (q + 1) + e.1) = 1 ∧ I 256 (12 * (q + 1) + I 285 (mLeaf I (e.2 + I 257 (12 * (q + 1) + e.1)) (I 100 84).toNat)) = 0 then up2 J 287 (mLeaf I (e.2 + I 257 (12 * (q + 1) + e.1)) (I 100 84).toNat) (mDiv (J 287 (mLeaf I (e.2 + I 257 (12 * (q + 1) + e.1)) (I 100 84).toNat)) (psB I q e.1 (e.2 + I 257 (12 * (q + 1) + e.1)))) else J
theorem psF_1 {q : Int} {k o l c : Int} (hc : c = o + I 257 (12 * (q + 1) + k)) (hl : l = mLeaf I c (I 100 84).toNat) (h : I 256 (12 * (q + 1) + k) = 1) (h2 : I 256 (12 * (q + 1) + I 285 l) = 0) : psF I q J (k, o) = up2 J 287 l (mDiv (J 287 l) (psB I q k c)) := by
  subst hl hc
  exact if_pos ⟨h, h2⟩
theorem psF_0 {q : Int} {k o l c : Int} (hc : c = o + I 257 (12 * (q + 1) + k)) (hl : l = mLeaf I c (I 100 84).toNat) (h : ¬ (I 256 (12 * (q + 1) + k) = 1 ∧ I 256 (12 * (q + 1) + I 285 l) = 0)) : psF I q J (k, o) = J := by
  subst hl hc
  exact if_neg h
theorem psF_rg {q : Int} (h292 : ∀ k, 0 ≤ I 292 k ∧ I 292 k ≤ 8) (hJ : ∀ k, 0 ≤ J 287 k ∧ J 287 k ≤ 10) (e : Int × Int) : ∀ k, 0 ≤ psF I q J e 287 k ∧ psF I q J e 287 k ≤ 10 := by
  intro k
  unfold psF
  split
  · unfold up2
    split
    · have b : 0 ≤ psB I q e.1 (e.2 + I 257 (12 * (q + 1) + e.1)) := by unfold psB; split; exact (mVals_rg h292).1; decide
      have a := hJ (mLeaf I (e.2 + I 257 (12 * (q + 1) + e.1)) (I 100 84).toNat)
      have := mDiv_rg a.1 b
      omega
    · exact hJ k
  · exact hJ k
theorem psF_o {q : Int} (e : Int × Int) (o : Nat) (k : Int) (h : o ≠ 287) : psF I q J e o k = J o k := by
  unfold psF
  split
  · exact up2_o _ _ _ _ h
  · rfl
/-- the nodes that wait lie on the stack -/
def StQ (T : IT) : PND → Prop
  | [] => True
  | e :: p => T 283 p.length = e.2.1 ∧ StQ T p
theorem StQ.of {T U : IT} : ∀ p : PND, StQ T p → (∀ q : Int, 0 ≤ q → q < p.length → U 283 q = T 283 q) → StQ U p := by
  intro p
  induction p with
  | nil => intro _ _; exact trivial
  | cons e p ih =>
    intro h f
    have l : ((e :: p : PND).length : Int) = (p.length : Int) + 1 := by show ((p.length + 1 : Nat) : Int) = _; omega
    exact ⟨(f _ (by omega) (by omega)).trans h.1, ih h.2 (fun q q0 q1 => f q q0 (by omega))⟩
/-- passing filters -/
def PI (J I JT T : IT) (q : Int) (aF dF : List (Int × Int)) (p : PND) : Prop :=
  (∀ (o : Nat) (z : Int), o ≠ 283 → T o z = I o z) ∧ JT = dF.foldl (psF I q) J ∧ StQ T p ∧ pOK I (12 * (q + 1)) p ∧ dF ++ pF I (12 * (q + 1)) p = aF ∧ (∀ e ∈ pV I (12 * (q + 1)) p, I 282 e.1 = e.2) ∧ (pL I (12 * (q + 1)) p).length ≤ 4
theorem foldl_rg {q : Int} (h292 : ∀ k, 0 ≤ I 292 k ∧ I 292 k ≤ 8) : ∀ (l : List (Int × Int)) (J : IT), (∀ k, 0 ≤ J 287 k ∧ J 287 k ≤ 10) → ∀ k, 0 ≤ l.foldl (psF I q) J 287 k ∧ l.foldl (psF I q) J 287 k ≤ 10 := by
  intro l
  induction l with
  | nil => intro J h; exact h
  | cons e l ih => intro J h; exact ih _ (psF_rg h292 h e)
theorem PI.inner {JT T : IT} {q k o : Int} {aF dF : List (Int × Int)} {f : Nat} {r : PND} (h : PI J I JT T q aF dF ((f + 1, k, o) :: r)) (hi : mInner I (12 * (q + 1) + k)) : PI J I JT (up2 (up2 T 283 r.length (I 280 k)) 283 ((r.length : Int) + 1) (I 279 k)) q aF dF ((f, I 279 k, o) :: (f, I 280 k, o + I 281 (I 279 k)) :: r) := by
  obtain ⟨f1, f2, hs, hp, a1, hV, hL⟩ := h
  have hk : blkOK I (12 * (q + 1)) (f + 1) k o := hp (f + 1, k, o) List.mem_cons_self
  obtain ⟨-, q1, q2, o1, o2⟩ := hk.2.1 hi
  have eF : pF I (12 * (q + 1)) ((f + 1, k, o) :: r) = pF I (12 * (q + 1)) ((f, I 279 k, o) :: (f, I 280 k, o + I 281 (I 279 k)) :: r) := by
    show blkF I (12 * (q + 1)) (f + 1) k o ++ pF I (12 * (q + 1)) r = blkF I (12 * (q + 1)) f (I 279 k) o ++ (blkF I (12 * (q + 1)) f (I 280 k) (o + I 281 (I 279 k)) ++ pF I (12 * (q + 1)) r)
    rw [blkF_i hi, List.append_assoc]
  have eL : pL I (12 * (q + 1)) ((f + 1, k, o) :: r) = pL I (12 * (q + 1)) ((f, I 279 k, o) :: (f, I 280 k, o + I 281 (I 279 k)) :: r) := by
    show blkL I (12 * (q + 1)) (f + 1) k o ++ pL I (12 * (q + 1)) r = blkL I (12 * (q + 1)) f (I 279 k) o ++ (blkL I (12 * (q + 1)) f (I 280 k) (o + I 281 (I 279 k)) ++ pL I (12 * (q + 1)) r)
    rw [(blk_i hi).1, List.append_assoc]
  have eV : pV I (12 * (q + 1)) ((f + 1, k, o) :: r) = (k, o) :: pV I (12 * (q + 1)) ((f, I 279 k, o) :: (f, I 280 k, o + I 281 (I 279 k)) :: r) := by
    show blkV I (12 * (q + 1)) (f + 1) k o ++ pV I (12 * (q + 1)) r = _ :: (blkV I (12 * (q + 1)) f (I 279 k) o ++ (blkV I (12 * (q + 1)) f (I 280 k) (o + I 281 (I 279 k)) ++ pV I (12 * (q + 1)) r))
    rw [(blk_i hi).2.2, List.cons_append, List.append_assoc]
  refine ⟨fun o z ho => (up2_o _ _ _ _ ho).trans ((up2_o _ _ _ _ ho).trans (f1 o z ho)), f2, ⟨?_, ?_, ?_⟩, fun e he => ?_, by rw [← eF]; exact a1, fun e he => hV e (by rw [eV]; exact List.mem_cons_of_mem _ he), by rw [← eL]; exact hL⟩
  · show up2 _ 283 ((r.length : Int) + 1) (I 279 k) 283 (((r.length + 1 : Nat) : Int)) = I 279 k
    rw [show ((r.length + 1 : Nat) : Int) = (r.length : Int) + 1 by omega, up2_eq]
  · show up2 _ 283 ((r.length : Int) + 1) (I 279 k) 283 ((r.length : Nat) : Int) = I 280 k
    rw [up2_k _ _ _ _ (by omega), up2_eq]
  · exact hs.2.of _ (fun z z0 z1 => by rw [up2_k _ _ _ _ (by omega), up2_k _ _ _ _ (by omega)])
  · rcases List.mem_cons.1 he with z | z
    · rw [z]; exact o1
    · rcases List.mem_cons.1 z with z | z
      · rw [z]; exact o2
      · exact hp e (List.mem_cons_of_mem _ z)
theorem PI.filter {JT T : IT} {q k o : Int} {aF dF : List (Int × Int)} {f : Nat} {r : PND} (h : PI J I JT T q aF dF ((f + 1, k, o) :: r)) (hi : ¬ mInner I (12 * (q + 1) + k)) (hf : isFlt (I 256 (12 * (q + 1) + k))) : (k, o) ∈ aF ∧ I 282 k = o ∧ PI J I (psF I q JT (k, o)) (up2 T 283 r.length (I 279 k)) q aF (dF ++ [(k, o)]) ((f, I 279 k, o) :: r) := by
  obtain ⟨f1, f2, hs, hp, a1, hV, hL⟩ := h
  have hk : blkOK I (12 * (q + 1)) (f + 1) k o := hp (f + 1, k, o) List.mem_cons_self
  obtain ⟨q1, o1⟩ := hk.2.2.1 hi hf
  have eF : pF I (12 * (q + 1)) ((f + 1, k, o) :: r) = (k, o) :: pF I (12 * (q + 1)) ((f, I 279 k, o) :: r) := by
    show blkF I (12 * (q + 1)) (f + 1) k o ++ pF I (12 * (q + 1)) r = _ :: (blkF I (12 * (q + 1)) f (I 279 k) o ++ pF I (12 * (q + 1)) r)
    rw [blkF_f hi hf, List.cons_append]
  have eL : pL I (12 * (q + 1)) ((f + 1, k, o) :: r) = pL I (12 * (q + 1)) ((f, I 279 k, o) :: r) := by
    show blkL I (12 * (q + 1)) (f + 1) k o ++ pL I (12 * (q + 1)) r = blkL I (12 * (q + 1)) f (I 279 k) o ++ pL I (12 * (q + 1)) r
    rw [(blk_f hi hf).1]
  have eV : pV I (12 * (q + 1)) ((f + 1, k, o) :: r) = (k, o) :: pV I (12 * (q + 1)) ((f, I 279 k, o) :: r) := by
    show blkV I (12 * (q + 1)) (f + 1) k o ++ pV I (12 * (q + 1)) r = _ :: (blkV I (12 * (q + 1)) f (I 279 k) o ++ pV I (12 * (q + 1)) r)
    rw [(blk_f hi hf).2.2, List.cons_append]
  refine ⟨by rw [← a1, eF]; simp, hV (k, o) (by rw [eV]; exact List.mem_cons_self), fun o z ho => (up2_o _ _ _ _ ho).trans (f1 o z ho), by rw [List.foldl_append, ← f2]; rfl, ⟨up2_eq _ _ _ _, hs.2.of _ (fun z z0 z1 => up2_k _ _ _ _ (by omega))⟩, fun e he => ?_, by rw [← a1, eF, List.append_assoc]; rfl, fun e he => hV e (by rw [eV]; exact List.mem_cons_of_mem _ he), by rw [← eL]; exact hL⟩
  rcases List.mem_cons.1 he with z | z
  · rw [z]; exact o1
  · exact hp e (List.mem_cons_of_mem _ z)
theorem PI.leaf {JT T : IT} {q k o : Int} {aF dF : List (Int × Int)} {f : Nat} {r : PND} (h : PI J I JT T q aF dF ((f + 1, k, o) :: r)) (hi : ¬ mInner I (12 * (q + 1) + k)) (hf : ¬ isFlt (I 256 (12 * (q + 1) + k))) : PI J I JT T q aF dF r := by
  obtain ⟨f1, f2, hs, hp, a1, hV, hL⟩ := h
  have eF : pF I (12 * (q + 1)) ((f + 1, k, o) :: r) = pF I (12 * (q + 1)) r := by
    show blkF I (12 * (q + 1)) (f + 1) k o ++ pF I (12 * (q + 1)) r = _
    rw [blkF_l hi hf]; rfl
  have eL : pL I (12 * (q + 1)) ((f + 1, k, o) :: r) = (k, o) :: pL I (12 * (q + 1)) r := by
    show blkL I (12 * (q + 1)) (f + 1) k o ++ pL I (12 * (q + 1)) r = _
    rw [(blk_l hi hf).1]; rfl
  have eV : pV I (12 * (q + 1)) ((f + 1, k, o) :: r) = (k, o) :: pV I (12 * (q + 1)) r := by
    show blkV I (12 * (q + 1)) (f + 1) k o ++ pV I (12 * (q + 1)) r = _
    rw [(blk_l hi hf).2.2]; rfl
  exact ⟨f1, f2, hs.2, fun e he => hp e (List.mem_cons_of_mem _ he), by rw [← eF]; exact a1, fun e he => hV e (by rw [eV]; exact List.mem_cons_of_mem _ he), by rw [eL, List.length_cons] at hL; omega⟩
end
