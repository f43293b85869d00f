/-! the joins of a block: class and reference -/
section
variable {I S T U J : IT} {x Q : Int} {n q top : Nat}
/-- the inner joins of a block, in the order in which the reference meets them -/
noncomputable def blkI (T : IT) (x : Int) : Nat → Int → Int → List (Int × Int)
  | 0, _, _ => []
  | f + 1, k, o => if bI (mInner T (x + k)) = 1 then (k, o) :: (blkI T x f (T 279 k) o ++ blkI T x f (T 280 k) (o + T 281 (T 279 k))) else if bI (isFlt (T 256 (x + k))) = 1 then blkI T x f (T 279 k) o else []
theorem blkI_i {f : Nat} {k o : Int} (h : mInner T (x + k)) : blkI T x (f + 1) k o = (k, o) :: (blkI T x f (T 279 k) o ++ blkI T x f (T 280 k) (o + T 281 (T 279 k))) := if_pos (bI1 h)
theorem blkI_f {f : Nat} {k o : Int} (h : ¬ mInner T (x + k)) (h2 : isFlt (T 256 (x + k))) : blkI T x (f + 1) k o = blkI T x f (T 279 k) o := (if_neg (by rw [bI0 h]; decide)).trans (if_pos (bI1 h2))
theorem blkI_l {f : Nat} {k o : Int} (h : ¬ mInner T (x + k)) (h2 : ¬ isFlt (T 256 (x + k))) : blkI T x (f + 1) k o = [] := (if_neg (by rw [bI0 h]; decide)).trans (if_neg (by rw [bI0 h2]; decide))
def jnE (T : IT) (x : Int) (e : Int × Int) : Int × Int := (e.2 + T 258 (x + e.1), e.2 + T 281 (T 279 e.1) + T 259 (x + e.1))
theorem blkI_J : ∀ (f : Nat) (k o : Int), blkJ T x f k o = (blkI T x f k o).map (jnE T x) := by
  intro f
  induction f with
  | zero => exact fun _ _ => rfl
  | succ f ihq =>
    intro k o
    by_cases hi : mInner T (x + k)
    · rw [(blk_i hi).2.1, blkI_i hi, ihq, ihq, List.map_cons, List.map_append]; rfl
    · by_cases hf : isFlt (T 256 (x + k))
      · rw [(blk_f hi hf).2.1, blkI_f hi hf, ihq]
      · rw [(blk_l hi hf).2.1, blkI_l hi hf]; rfl
theorem blkI_sub : ∀ (f : Nat) (k o : Int), (blkI T x f k o).Sublist (blkV T x f k o) := by
  intro f
  induction f with
  | zero => exact fun _ _ => List.Sublist.refl _
  | succ f ihq =>
    intro k o
    by_cases hi : mInner T (x + k)
    · rw [blkI_i hi, (blk_i hi).2.2]
      exact List.Sublist.cons_cons _ (List.Sublist.append (ihq _ _) (ihq _ _))
    · by_cases hf : isFlt (T 256 (x + k))
      · rw [blkI_f hi hf, (blk_f hi hf).2.2]
        exact List.Sublist.cons _ (ihq _ _)
      · rw [blkI_l hi hf]
        exact List.nil_sublist _
theorem blkI_mem : ∀ (f : Nat) (k o : Int) (e : Int × Int), e ∈ blkI T x f k o ↔ e ∈ blkV T x f k o ∧ mInner T (x + e.1) := by
  intro f
  induction f with
  | zero => exact fun _ _ e => ⟨fun z => (List.not_mem_nil z).elim, fun z => (List.not_mem_nil z.1).elim⟩
  | succ f ihq =>
    intro k o e
    by_cases hi : mInner T (x + k)
    · rw [blkI_i hi, (blk_i hi).2.2, List.mem_cons, List.mem_append, List.mem_cons, List.mem_append, ihq, ihq]
      constructor
      · rintro (z | z | z)
        · exact ⟨Or.inl z, by rw [z]; exact hi⟩
        · exact ⟨Or.inr (Or.inl z.1), z.2⟩
        · exact ⟨Or.inr (Or.inr z.1), z.2⟩
      · rintro ⟨z | z | z, w⟩
        · exact Or.inl z
        · exact Or.inr (Or.inl ⟨z, w⟩)
        · exact Or.inr (Or.inr ⟨z, w⟩)
    · by_cases hf : isFlt (T 256 (x + k))
      · rw [blkI_f hi hf, (blk_f hi hf).2.2, List.mem_cons, ihq]
        constructor
        · exact fun z => ⟨Or.inr z.1, z.2⟩
        · rintro ⟨z | z, w⟩
          · rw [z] at w; exact (hi w).elim
          · exact ⟨z, w⟩
      · rw [blkI_l hi hf, (blk_l hi hf).2.2, List.mem_singleton]
        constructor
        · exact fun z => (List.not_mem_nil z).elim
        · rintro ⟨z, w⟩
          rw [z] at w
          exact (hi w).elim
theorem blkV_self {f : Nat} (hf : 0 < f) (k o : Int) : (k, o) ∈ blkV T x f k o := by
  cases f with
  | zero => omega
  | succ f =>
    by_cases hi : mInner T (x + k)
    · rw [(blk_i hi).2.2]; exact List.mem_cons_self
    · by_cases h2 : isFlt (T 256 (x + k))
      · rw [(blk_f hi h2).2.2]; exact List.mem_cons_self
      · rw [(blk_l hi h2).2.2]; exact List.mem_cons_self
/-- an inner join's right operand is in the block, and its left one -/
theorem blkV_child (h : Qk I S T q x n) : ∀ (f k : Nat) (o : Int), k < f → k < n → ∀ (e : Int × Int), e ∈ blkV T x f k o → mInner T (x + e.1) → (T 280 e.1, e.2 + T 281 (T 279 e.1)) ∈ blkV T x f k o ∧ (T 279 e.1, e.2) ∈ blkV T x f k o := by
  intro f
  induction f with
  | zero => intro k o hf; omega
  | succ f ihq =>
    intro k o hf hk e he hm
    obtain ⟨o1, o2, -⟩ := h.op (k : Int)
    by_cases hi : mInner T (x + k)
    · obtain ⟨j, l, ek, c7, c6, t8, t7, lj, ej, ea, t9, c5⟩ := h.two hk hi
      rw [(blk_i hi).2.2] at he ⊢
      rcases List.mem_cons.mp he with y | y
      · rw [y]
        exact ⟨List.mem_cons_of_mem _ (List.mem_append_right _ (blkV_self (by omega) _ _)), List.mem_cons_of_mem _ (List.mem_append_left _ (blkV_self (by omega) _ _))⟩
      · rw [t7, t8] at y ⊢
        rcases List.mem_append.mp y with y | y
        · obtain ⟨a, b⟩ := ihq l o (by omega) (by omega) e y hm
          exact ⟨List.mem_cons_of_mem _ (List.mem_append_left _ a), List.mem_cons_of_mem _ (List.mem_append_left _ b)⟩
        · obtain ⟨a, b⟩ := ihq j _ (by omega) (by omega) e y hm
          exact ⟨List.mem_cons_of_mem _ (List.mem_append_right _ a), List.mem_cons_of_mem _ (List.mem_append_right _ b)⟩
    · by_cases hf2 : isFlt (T 256 (x + k))
      · obtain ⟨j, ek, c7, c6, t7, ea⟩ := h.one hk (by rw [← o1]; exact dOp_flt hf2)
        rw [(blk_f hi hf2).2.2] at he ⊢
        rcases List.mem_cons.mp he with y | y
        · rw [y] at hm; exact (hi hm).elim
        · rw [t7] at y ⊢
          obtain ⟨a, b⟩ := ihq j o (by omega) (by omega) e y hm
          exact ⟨List.mem_cons_of_mem _ a, List.mem_cons_of_mem _ b⟩
      · rw [(blk_l hi hf2).2.2] at he
        rw [List.mem_singleton.mp he] at hm
        exact (hi hm).elim
/-- the joins as the class has taken them down -/
theorem gjO_5 {D : IT} {y z : Int} : gjO D q y 1395 z = if z = D 1384 9 then D 1388 y + D (q + 4) (y * 4 + 1) else D 1395 z := by
  unfold gjO
  rw [up2_o _ _ _ _ (by decide), up2_o _ _ _ _ (by decide), up2_if]
theorem gjO_6 {D : IT} {y z : Int} : gjO D q y 1396 z = if z = D 1384 9 then D 1388 (D (q + 7) y) + D (q + 4) (y * 4 + 2) else D 1396 z := by
  unfold gjO
  rw [up2_o _ _ _ _ (by decide), up2_if, up2_o _ _ _ _ (by decide)]
theorem gj_list {D : IT} (hq : 10000 ≤ q) {P : Nat → Prop} (hP : ∀ j : Nat, j < n → (P j ↔ D 1387 j ≠ 0 ∧ quInn D q j)) : ∀ m, m ≤ n → gjL D q m 1384 9 = (lvR P 0 m).length ∧ ∀ (i j : Nat), (lvR P 0 m)[i]? = some j → gjL D q m 1395 i = D 1388 j + D (q + 4) ((j : Int) * 4 + 1) ∧ gjL D q m 1396 i = D 1388 (D (q + 7) j) + D (q + 4) ((j : Int) * 4 + 2) := by
  intro m
  induction m with
  | zero =>
    intro _
    refine ⟨up2_eq _ _ _ _, fun i j hyp => ?_⟩
    rw [show lvR P 0 0 = [] from rfl, List.getElem?_nil] at hyp
    cases hyp
  | succ m ihq =>
    intro hm
    obtain ⟨c4, cl⟩ := ihq (by omega)
    have o3 : gjL D q m (q + 3) = D (q + 3) := gjL_o (by omega) (by omega) (by omega) m
    have o4 : gjL D q m (q + 4) = D (q + 4) := gjL_o (by omega) (by omega) (by omega) m
    have o7 : gjL D q m (q + 7) = D (q + 7) := gjL_o (by omega) (by omega) (by omega) m
    have p7 : gjL D q m 1387 = D 1387 := gjL_o (by decide) (by decide) (by decide) m
    have p8 : gjL D q m 1388 = D 1388 := gjL_o (by decide) (by decide) (by decide) m
    have pm := hP m (by omega)
    have qi : quInn (gjL D q m) q m ↔ quInn D q m := by unfold quInn; rw [o3, o4]
    by_cases y : P m
    · have es : lvR P 0 (m + 1) = lvR P 0 m ++ [m] := by
        have := lvR_yes (P := P) (a := 0) (m := m) (by rw [Nat.zero_add]; exact y)
        rw [Nat.zero_add] at this
        exact this
      rw [gjL_yes ⟨by rw [p7]; exact (pm.mp y).1, qi.mpr (pm.mp y).2⟩, es]
      refine ⟨?_, fun i j hyp => ?_⟩
      · rw [gjO_n, c4, List.length_append]
        have : ([m] : List Nat).length = 1 := rfl
        omega
      · rw [gjO_5, gjO_6, p8, o4, o7, c4]
        by_cases il : i < (lvR P 0 m).length
        · rw [List.getElem?_append_left il] at hyp
          obtain ⟨b1, b2⟩ := cl i j hyp
          rw [if_neg (by omega), if_neg (by omega)]
          exact ⟨b1, b2⟩
        · have ei : i = (lvR P 0 m).length := by
            have := (List.getElem?_eq_some_iff.mp hyp).1
            rw [List.length_append] at this
            have : ([m] : List Nat).length = 1 := rfl
            omega
          rw [ei, List.getElem?_append_right (Nat.le_refl _), Nat.sub_self] at hyp
          have ej : m = j := Option.some.inj hyp
          rw [← ej, ei, if_pos rfl, if_pos rfl]
          exact ⟨rfl, rfl⟩
    · have es : lvR P 0 (m + 1) = lvR P 0 m := lvR_no (by rw [Nat.zero_add]; exact y)
      rw [es, gjL_no (fun z => y (pm.mpr ⟨by have := z.1; rw [p7] at this; exact this, qi.mp z.2⟩))]
      exact ⟨c4, cl⟩
/-- a join that ties the leaf to those ahead lessens the rows -/
def tieE (lf : Int → Int) (t leaf : Int) (e : Int × Int) : Prop := (lf e.1 = leaf ∧ t / 2 ^ (lf e.2).toNat % 2 = 1) ∨ (lf e.2 = leaf ∧ t / 2 ^ (lf e.1).toNat % 2 = 1)
noncomputable def jG (lf vl : Int → Int) (t leaf r : Int) (e : Int × Int) : Int := @ite _ (tieE lf t leaf e) (Classical.propDecidable _) (mDiv r (mMax (vl e.1) (vl e.2))) r
theorem jG_comm {lf vl : Int → Int} {t leaf : Int} {a b : Int × Int} (ha : 0 ≤ mMax (vl a.1) (vl a.2)) (hb : 0 ≤ mMax (vl b.1) (vl b.2)) (r : Int) : jG lf vl t leaf (jG lf vl t leaf r a) b = jG lf vl t leaf (jG lf vl t leaf r b) a := by
  unfold jG
  by_cases y : tieE lf t leaf a
  · by_cases w : tieE lf t leaf b
    · rw [if_pos y, if_pos w, if_pos w, if_pos y, mDiv_comm ha hb]
    · rw [if_neg w, if_pos y, if_neg w, if_pos y]
  · by_cases w : tieE lf t leaf b
    · rw [if_pos w, if_neg y, if_pos w, if_neg y]
    · rw [if_neg w, if_neg y, if_neg w, if_neg y]
theorem fold_same {α β : Type} {f g : β → α → β} : ∀ (l : List α) (z : β), (∀ a ∈ l, ∀ z, f z a = g z a) → l.foldl f z = l.foldl g z := by
  intro l
  induction l with
  | nil => exact fun _ _ => rfl
  | cons a l ihq =>
    intro z h
    show l.foldl f (f z a) = l.foldl g (g z a)
    rw [h a List.mem_cons_self, ihq _ (fun b hb => h b (List.mem_cons_of_mem _ hb))]
theorem ctJ_fold {D : IT} {t leaf r : Int} {L : List (Int × Int)} (hL : ∀ (i : Nat) e, L[i]? = some e → D 1395 i = e.1 ∧ D 1396 i = e.2) : ∀ m, m ≤ L.length → ctJ D t leaf r m = (L.take m).foldl (jG (D 1392) (D 1393) t leaf) r := by
  intro m
  induction m with
  | zero => exact fun _ => by rw [List.take_zero]; rfl
  | succ m ihq =>
    intro hm
    have gm := List.getElem?_eq_getElem (show m < L.length by omega)
    obtain ⟨e1, e2⟩ := hL m _ gm
    rw [List.take_add_one, gm, List.foldl_append, ← ihq (by omega)]
    show _ = jG (D 1392) (D 1393) t leaf (ctJ D t leaf r m) L[m]
    have cn : cnX D t leaf m ↔ tieE (D 1392) t leaf L[m] := by
      unfold cnX tieE
      rw [e1, e2]
    unfold jG
    by_cases y : cnX D t leaf m
    · rw [if_pos (cn.mp y), ← ctJ_yes y, e1, e2]
    · rw [if_neg (fun z => y (cn.mpr z)), ← ctJ_no y]
theorem mCj_fold {t leaf r : Int} {L : List (Int × Int)} {nl : Nat} (hL : ∀ (i : Nat) e, L[i]? = some e → U 289 i = e.1 ∧ U 290 i = e.2) : ∀ m, m ≤ L.length → mCj U Q nl t leaf r m = (L.take m).foldl (jG (fun c => mLeaf U c nl) (mVals U Q) t leaf) r := by
  intro m
  induction m with
  | zero => exact fun _ => by rw [List.take_zero]; rfl
  | succ m ihq =>
    intro hm
    have gm := List.getElem?_eq_getElem (show m < L.length by omega)
    obtain ⟨e1, e2⟩ := hL m _ gm
    rw [List.take_add_one, gm, List.foldl_append, ← ihq (by omega)]
    show _ = jG (fun c => mLeaf U c nl) (mVals U Q) t leaf (mCj U Q nl t leaf r m) L[m]
    have cn : mConn U nl t leaf m ↔ tieE (fun c => mLeaf U c nl) t leaf L[m] := by
      unfold mConn tieE
      rw [e1, e2]
    unfold jG
    by_cases y : mConn U nl t leaf m
    · rw [if_pos (cn.mp y), ← mCj_yes y, e1, e2]
    · rw [if_neg (fun z => y (cn.mpr z)), ← mCj_no y]
end
