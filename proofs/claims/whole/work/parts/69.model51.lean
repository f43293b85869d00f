/-- ends of which ints and longs are known only by what holds of them -/
def exW (K : KT) (P : PT) (rr : Option AV ⊕ String) (φ : IT → IT → Prop) : PQ := fun r K' P' J' I' => r = rr ∧ K' = K ∧ P' = P ∧ φ J' I'
theorem exW_mk {K : KT} {P : PT} {J I : IT} {rr : Option AV ⊕ String} {φ : IT → IT → Prop} (h : φ J I) : exW K P rr φ rr K P J I := ⟨rfl, rfl, rfl, h⟩
section
variable {M : MD} {R : Room} {Q : PQ} {K K1 : KT} {P P1 : PT} {J I : IT} {cs n pc pc' j : Nat} {L : List (Nat × AV)} {S St as : List AV} {My : MD} {Ry : Room} {x : Bool} {v : Option AV} {φ : IT → IT → Prop}
theorem VW.cVw {o ci n0 k : Nat} {T : u_T} {N : Nat} (d : decode M.2.1 pc = .ok (.invokevirtual j, 3)) (hp : pc + 3 = pc') (hm : MV My k) (hl : Cond.methodLink M.1.cls j My.1 ∈ TB) (hc : classes[ci]? = some (My.1.cls, T, N)) (ho : K o = some (ci, n0)) (h8 : Nat.ble (sl S) 8 = true) (hR1 : Nat.ble (Ry.frames + 1) R.frames = true) (hR2 : Nat.ble (8 + (My.2.2.1 + 11) + Ry.locals) R.locals = true) (hcs : cs + Ry.cells ≤ R.cells) (hn : n + Ry.slots ≤ R.slots) (hs : Sp My false Ry (exW K1 P1 (.inl v) φ) K P J I (vR (some o) :: as)) (hst : St = as.reverse ++ vR (some o) :: S) (hk : as.length = k)
    (kk : ∀ J1 I1, φ J1 I1 → VW M x R Q K1 P1 J1 I1 (cs + Ry.cells) (n + Ry.slots) pc' L (v.toList ++ S)) : VW M x R Q K P J I cs n pc L St :=
  VW.callV d hp hs hst hm.1 hm.2.1 hk hm.2.2.1 hm.2.2.2 hl hc ho h8 hR1 hR2 hcs hn (fun r K' P' J' I' h => by obtain ⟨h1, h2, h3, h4⟩ := h; cases h1; subst h2; subst h3; exact kk _ _ h4)
end
section
variable {K : KT} {P : PT} {J I : IT} {Q : PQ}
/-- a FILTER by a value or of columns -/
def isFlt (op : Int) : Prop := op = 1 ∨ op = 2
/-- leaves of the block below a node, left to right, and where their columns begin -/
noncomputable def blkL (I : IT) (x : Int) : Nat → Int → Int → List (Int × Int)
  | 0, _, _ => []
  | f + 1, k, o => if bI (mInner I (x + k)) = 1 then blkL I x f (I 279 k) o ++ blkL I x f (I 280 k) (o + I 281 (I 279 k)) else if bI (isFlt (I 256 (x + k))) = 1 then blkL I x f (I 279 k) o else [(k, o)]
noncomputable def blkJ (I : IT) (x : Int) : Nat → Int → Int → List (Int × Int)
  | 0, _, _ => []
  | f + 1, k, o => if bI (mInner I (x + k)) = 1 then (o + I 258 (x + k), o + I 281 (I 279 k) + I 259 (x + k)) :: (blkJ I x f (I 279 k) o ++ blkJ I x f (I 280 k) (o + I 281 (I 279 k))) else if bI (isFlt (I 256 (x + k))) = 1 then blkJ I x f (I 279 k) o else []
noncomputable def blkV (I : IT) (x : Int) : Nat → Int → Int → List (Int × Int)
  | 0, _, _ => []
  | f + 1, k, o => if bI (mInner I (x + k)) = 1 then (k, o) :: (blkV I x f (I 279 k) o ++ blkV I x f (I 280 k) (o + I 281 (I 279 k))) else if bI (isFlt (I 256 (x + k))) = 1 then (k, o) :: blkV I x f (I 279 k) o else [(k, o)]
/-- a block can be gone through -/
def blkOK (I : IT) (x : Int) : Nat → Int → Int → Prop
  | 0, _, _ => False
  | f + 1, k, o => ((0 ≤ k ∧ k < 12) ∧ (0 ≤ o ∧ o ≤ 20)) ∧ (mInner I (x + k) → ((0 ≤ I 281 (I 279 k) ∧ I 281 (I 279 k) ≤ 10) ∧ (0 ≤ I 258 (x + k) ∧ I 258 (x + k) ≤ 10) ∧ (0 ≤ I 259 (x + k) ∧ I 259 (x + k) ≤ 10)) ∧ (0 ≤ I 279 k ∧ I 279 k < 12) ∧ (0 ≤ I 280 k ∧ I 280 k < 12) ∧ blkOK I x f (I 279 k) o ∧ blkOK I x f (I 280 k) (o + I 281 (I 279 k))) ∧ (¬ mInner I (x + k) → isFlt (I 256 (x + k)) → (0 ≤ I 279 k ∧ I 279 k < 12) ∧ blkOK I x f (I 279 k) o) ∧ (¬ mInner I (x + k) → ¬ isFlt (I 256 (x + k)) → I 256 (x + k) = 0 → 0 ≤ I 257 (x + k) ∧ I 257 (x + k) < 6)
theorem blk_i {x k o : Int} {f : Nat} (h : mInner I (x + k)) : blkL I x (f + 1) k o = blkL I x f (I 279 k) o ++ blkL I x f (I 280 k) (o + I 281 (I 279 k)) ∧ blkJ I x (f + 1) k o = (o + I 258 (x + k), o + I 281 (I 279 k) + I 259 (x + k)) :: (blkJ I x f (I 279 k) o ++ blkJ I x f (I 280 k) (o + I 281 (I 279 k))) ∧ blkV I x (f + 1) k o = (k, o) :: (blkV I x f (I 279 k) o ++ blkV I x f (I 280 k) (o + I 281 (I 279 k))) := ⟨if_pos (bI1 h), if_pos (bI1 h), if_pos (bI1 h)⟩
theorem blk_f {x k o : Int} {f : Nat} (h : ¬ mInner I (x + k)) (h2 : isFlt (I 256 (x + k))) : blkL I x (f + 1) k o = blkL I x f (I 279 k) o ∧ blkJ I x (f + 1) k o = blkJ I x f (I 279 k) o ∧ blkV I x (f + 1) k o = (k, o) :: blkV I x f (I 279 k) o := by
  have a : ¬ bI (mInner I (x + k)) = 1 := by rw [bI0 h]; decide
  exact ⟨(if_neg a).trans (if_pos (bI1 h2)), (if_neg a).trans (if_pos (bI1 h2)), (if_neg a).trans (if_pos (bI1 h2))⟩
theorem blk_l {x k o : Int} {f : Nat} (h : ¬ mInner I (x + k)) (h2 : ¬ isFlt (I 256 (x + k))) : blkL I x (f + 1) k o = [(k, o)] ∧ blkJ I x (f + 1) k o = [] ∧ blkV I x (f + 1) k o = [(k, o)] := by
  have a : ¬ bI (mInner I (x + k)) = 1 := by rw [bI0 h]; decide
  have b : ¬ bI (isFlt (I 256 (x + k))) = 1 := by rw [bI0 h2]; decide
  exact ⟨(if_neg a).trans (if_neg b), (if_neg a).trans (if_neg b), (if_neg a).trans (if_neg b)⟩
theorem blkV_hd {x : Int} {f : Nat} {k o : Int} (h : blkOK I x f k o) : ∃ t, blkV I x f k o = (k, o) :: t := by
  cases f with
  | zero => exact h.elim
  | succ f =>
    by_cases a : mInner I (x + k)
    · exact ⟨_, (blk_i a).2.2⟩
    · by_cases b : isFlt (I 256 (x + k))
      · exact ⟨_, (blk_f a b).2.2⟩
      · exact ⟨_, (blk_l a b).2.2⟩
theorem blkL_pos {x : Int} : ∀ (f : Nat) (k o : Int), blkOK I x f k o → 1 ≤ (blkL I x f k o).length := by
  intro f
  induction f with
  | zero => intro k o h; exact h.elim
  | succ f ih =>
    intro k o h
    by_cases a : mInner I (x + k)
    · rw [(blk_i a).1, List.length_append]
      have := ih _ _ (h.2.1 a).2.2.2.1
      omega
    · by_cases b : isFlt (I 256 (x + k))
      · rw [(blk_f a b).1]; exact ih _ _ (h.2.2.1 a b).2
      · rw [(blk_l a b).1]; exact Nat.le_refl _
/-- nodes that wait, the next one first: fuel, node, offset -/
abbrev PND : Type := List (Nat × Int × Int)
noncomputable def pL (I : IT) (x : Int) (p : PND) : List (Int × Int) := p.flatMap (fun e => blkL I x e.1 e.2.1 e.2.2)
noncomputable def pJ (I : IT) (x : Int) (p : PND) : List (Int × Int) := p.flatMap (fun e => blkJ I x e.1 e.2.1 e.2.2)
noncomputable def pV (I : IT) (x : Int) (p : PND) : List (Int × Int) := p.flatMap (fun e => blkV I x e.1 e.2.1 e.2.2)
def pOK (I : IT) (x : Int) (p : PND) : Prop := ∀ e ∈ p, blkOK I x e.1 e.2.1 e.2.2
theorem pL_len {x : Int} : ∀ p : PND, pOK I x p → p.length ≤ (pL I x p).length := by
  intro p
  induction p with
  | nil => intro _; exact Nat.le_refl _
  | cons e p ih =>
    intro h
    have a := ih (fun d hd => h d (List.mem_cons_of_mem _ hd))
    have b := blkL_pos _ _ _ (h e List.mem_cons_self)
    show p.length + 1 ≤ (blkL I x e.1 e.2.1 e.2.2 ++ pL I x p).length
    rw [List.length_append]
    omega
/-- the stack and the offsets of the nodes that wait -/
def StP (T : IT) : PND → Prop
  | [] => True
  | e :: p => (T 283 p.length = e.2.1 ∧ T 282 e.2.1 = e.2.2) ∧ StP T p
theorem StP.of {T U : IT} : ∀ p : PND, StP T p → (∀ q : Int, 0 ≤ q → q < p.length → U 283 q = T 283 q) → (∀ e ∈ p, U 282 e.2.1 = T 282 e.2.1) → StP U p := by
  intro p
  induction p with
  | nil => intro _ _ _; exact trivial
  | cons e p ih =>
    intro h f g
    have l : ((e :: p : PND).length : Int) = (p.length : Int) + 1 := by show ((p.length + 1 : Nat) : Int) = _; omega
    exact ⟨⟨(f _ (by omega) (by omega)).trans h.1.1, (g e List.mem_cons_self).trans h.1.2⟩, ih h.2 (fun q q0 q1 => f q q0 (by omega)) (fun d hd => g d (List.mem_cons_of_mem _ hd))⟩
/-- an array holds a list -/
def holds (T : IT) (a b : Nat) (L : List (Int × Int)) : Prop := ∀ (i : Nat) (e : Int × Int), L[i]? = some e → T a i = e.1 ∧ T b i = e.2
theorem holds.snoc {T : IT} {a b : Nat} {L : List (Int × Int)} {u v : Int} (hab : a ≠ b) (h : holds T a b L) : holds (up2 (up2 T a L.length u) b L.length v) a b (L ++ [(u, v)]) := by
  intro i e he
  by_cases hi : i < L.length
  · rw [List.getElem?_append_left hi] at he
    have := h i e he
    exact ⟨(up2_o _ _ _ _ hab).trans ((up2_k _ _ _ _ (by omega)).trans this.1), (up2_k _ _ _ _ (by omega)).trans ((up2_o _ _ _ _ hab.symm).trans this.2)⟩
  · rw [List.getElem?_append_right (by omega)] at he
    by_cases h0 : i - L.length = 0
    · rw [h0] at he
      have e1 : (u, v) = e := Option.some.inj he
      have ei : i = L.length := by omega
      subst ei e1
      exact ⟨(up2_o _ _ _ _ hab).trans (up2_eq _ _ _ _), up2_eq _ _ _ _⟩
    · rw [List.getElem?_eq_none (by simp; omega)] at he
      cases he
theorem holds.of {T U : IT} {a b : Nat} {L : List (Int × Int)} (h : holds T a b L) (fa : ∀ i : Int, i < L.length → U a i = T a i) (fb : ∀ i : Int, i < L.length → U b i = T b i) : holds U a b L := fun i e he => by
  have hi : i < L.length := by
    rcases Nat.lt_or_ge i L.length with z | z
    · exact z
    · rw [List.getElem?_eq_none z] at he; cases he
  have := h i e he
  exact ⟨(fa i (by omega)).trans this.1, (fb i (by omega)).trans this.2⟩
end
