/-! divisions in any order -/
section
variable {I S T U : IT} {x Q : Int} {n q top : Nat}
theorem nodup_of_map {α β : Type} {f : α → β} : ∀ {l : List α}, (l.map f).Nodup → l.Nodup
  | [], _ => List.nodup_nil
  | a :: l, h => by
    rw [List.map_cons, List.nodup_cons] at h
    exact List.nodup_cons.mpr ⟨fun z => h.1 (List.mem_map_of_mem z), nodup_of_map h.2⟩
theorem perm_foldl {α β : Type} {f : β → α → β} {l1 l2 : List α} (h : l1.Perm l2) : (∀ a ∈ l1, ∀ b ∈ l1, ∀ z, f (f z a) b = f (f z b) a) → ∀ z, l1.foldl f z = l2.foldl f z := by
  induction h with
  | nil => exact fun _ _ => rfl
  | cons a hp ihq => exact fun hc z => ihq (fun u hu v hv => hc u (List.mem_cons_of_mem _ hu) v (List.mem_cons_of_mem _ hv)) (f z a)
  | swap a b l =>
    intro hc z
    show l.foldl f (f (f z b) a) = l.foldl f (f (f z a) b)
    rw [hc b List.mem_cons_self a (List.mem_cons_of_mem _ List.mem_cons_self) z]
  | trans h1 h2 ihq1 ihq2 => exact fun hc z => (ihq1 hc z).trans (ihq2 (fun u hu v hv => hc u (h1.mem_iff.mpr hu) v (h1.mem_iff.mpr hv)) z)
theorem mDiv_nat (V B : Nat) : mDiv (V : Int) (B : Int) = (max 1 (V / (max B 1)) : Nat) := by
  have e1q : (if (B : Int) = 0 then (1 : Int) else B) = ((max B 1 : Nat) : Int) := by
    by_cases y : B = 0
    · subst y; rfl
    · rw [if_neg (by omega), show max B 1 = B by omega]
  unfold mDiv
  rw [e1q, Int.tdiv_eq_ediv_of_nonneg (by omega), ← Int.natCast_ediv]
  generalize V / max B 1 = w
  split <;> omega
theorem mDiv_neg {v b : Int} (hv : v ≤ 1) (hb : 0 ≤ b) : mDiv v b = 1 := by
  by_cases y : v < 0
  · have : v.tdiv (if b = 0 then 1 else b) ≤ 0 := by
      have e : v = -(-v) := by omega
      rw [e, Int.neg_tdiv]
      have := Int.tdiv_nonneg (a := -v) (b := if b = 0 then 1 else b) (by omega) (by split <;> omega)
      omega
    unfold mDiv
    rw [if_pos (by omega)]
  · have e : v = ((v.toNat : Nat) : Int) := by omega
    have e2 : b = ((b.toNat : Nat) : Int) := by omega
    rw [e, e2, mDiv_nat]
    have : v.toNat / max b.toNat 1 ≤ v.toNat := Nat.div_le_self _ _
    omega
theorem mDiv_comm {v a b : Int} (ha : 0 ≤ a) (hb : 0 ≤ b) : mDiv (mDiv v a) b = mDiv (mDiv v b) a := by
  by_cases y : v < 0
  · rw [mDiv_neg (v := v) (by omega) ha, mDiv_neg (v := v) (by omega) hb, mDiv_neg (v := 1) (by omega) hb, mDiv_neg (v := 1) (by omega) ha]
  · have e : v = ((v.toNat : Nat) : Int) := by omega
    have e1 : a = ((a.toNat : Nat) : Int) := by omega
    have e2 : b = ((b.toNat : Nat) : Int) := by omega
    rw [e, e1, e2, mDiv_nat, mDiv_nat, mDiv_nat, mDiv_nat]
    generalize v.toNat = V
    have ka : 1 ≤ max a.toNat 1 := by omega
    have kb : 1 ≤ max b.toNat 1 := by omega
    generalize max a.toNat 1 = A at *
    generalize max b.toNat 1 = B at *
    have one : ∀ C D : Nat, 1 ≤ C → 1 ≤ D → max 1 (max 1 (V / C) / D) = max 1 (V / (C * D)) := fun C D hC hD => by
      by_cases w : 1 ≤ V / C
      · rw [show max 1 (V / C) = V / C by omega, Nat.div_div_eq_div_mul]
      · have z0 : V / C = 0 := Nat.lt_one_iff.mp (Nat.lt_of_not_le w)
        have z1 : V / (C * D) = 0 := by rw [← Nat.div_div_eq_div_mul, z0, Nat.zero_div]
        rw [z0, z1, show max 1 0 = 1 by omega]
        have : 1 / D ≤ 1 := Nat.div_le_self _ _
        omega
    rw [one A B ka kb, one B A kb ka, Nat.mul_comm]
/-- a filter lessens the rows of its leaf -/
noncomputable def fG (cond : Int × Int → Prop) (lf dv : Int × Int → Int) (g : Int → Int) (e : Int × Int) : Int → Int := fun z => @ite _ (cond e ∧ z = lf e) (Classical.propDecidable _) (mDiv (g z) (dv e)) (g z)
theorem fG_comm {cond : Int × Int → Prop} {lf dv : Int × Int → Int} {a b : Int × Int} (ha : cond a → 0 ≤ dv a) (hb : cond b → 0 ≤ dv b) (g : Int → Int) : fG cond lf dv (fG cond lf dv g a) b = fG cond lf dv (fG cond lf dv g b) a := by
  funext z
  unfold fG
  by_cases y : cond a ∧ z = lf a
  · by_cases w : cond b ∧ z = lf b
    · rw [if_pos y, if_pos w, if_pos w, if_pos y, mDiv_comm (ha y.1) (hb w.1)]
    · rw [if_neg w, if_pos y, if_pos y, if_neg w]
  · by_cases w : cond b ∧ z = lf b
    · rw [if_pos w, if_neg y, if_neg y, if_pos w]
    · rw [if_neg w, if_neg y, if_neg y, if_neg w]
theorem fG_at {cond : Int × Int → Prop} {lf dv : Int × Int → Int} : ∀ (l : List (Int × Int)) (g g' : Int → Int) (z : Int), g z = g' z → l.foldl (fG cond lf dv) g z = l.foldl (fG cond lf dv) g' z := by
  intro l
  induction l with
  | nil => exact fun _ _ _ h => h
  | cons a l ihq =>
    intro g g' z h
    refine ihq _ _ z ?_
    unfold fG
    rw [h]
theorem blkF_sub : ∀ (f : Nat) (k o : Int), (blkF T x f k o).Sublist (blkV T x f k o) := by
  intro f
  induction f with
  | zero => exact fun _ _ => List.Sublist.refl _
  | succ f ihq =>
    intro k o
    by_cases hi : mInner T (x + k)
    · rw [blkF_i hi, (blk_i hi).2.2]
      exact List.Sublist.cons _ (List.Sublist.append (ihq _ _) (ihq _ _))
    · by_cases hf : isFlt (T 256 (x + k))
      · rw [blkF_f hi hf, (blk_f hi hf).2.2]
        exact List.Sublist.cons_cons _ (ihq _ _)
      · rw [blkF_l hi hf]
        exact List.nil_sublist _
theorem blkF_mem : ∀ (f : Nat) (k o : Int) (e : Int × Int), e ∈ blkF T x f k o ↔ e ∈ blkV T x f k o ∧ ¬ mInner T (x + e.1) ∧ isFlt (T 256 (x + e.1)) := by
  intro f
  induction f with
  | zero => exact fun _ _ e => ⟨fun z => (List.not_mem_nil z).elim, fun z => (List.not_mem_nil z.1).elim⟩
  | succ f ihq =>
    intro k o e
    by_cases hi : mInner T (x + k)
    · rw [blkF_i hi, (blk_i hi).2.2, List.mem_append, List.mem_cons, List.mem_append, ihq, ihq]
      constructor
      · rintro (z | z)
        · exact ⟨Or.inr (Or.inl z.1), z.2⟩
        · exact ⟨Or.inr (Or.inr z.1), z.2⟩
      · rintro ⟨z | z | z, w⟩
        · rw [z] at w; exact (w.1 hi).elim
        · exact Or.inl ⟨z, w⟩
        · exact Or.inr ⟨z, w⟩
    · by_cases hf : isFlt (T 256 (x + k))
      · rw [blkF_f hi hf, (blk_f hi hf).2.2, List.mem_cons, List.mem_cons, ihq]
        constructor
        · rintro (z | z)
          · exact ⟨Or.inl z, by rw [z]; exact hi, by rw [z]; exact hf⟩
          · exact ⟨Or.inr z.1, z.2⟩
        · rintro ⟨z | z, w⟩
          · exact Or.inl z
          · exact Or.inr ⟨z, w⟩
      · rw [blkF_l hi hf, (blk_l hi hf).2.2, List.mem_singleton]
        constructor
        · exact fun z => (List.not_mem_nil z).elim
        · rintro ⟨z, w⟩
          rw [z] at w
          exact (hf w.2).elim
/-- a node's columns lie among those of the block -/
theorem blkV_in (h : Qk I S T q x n) : ∀ (f k : Nat) (o : Int), k < f → k < n → ∀ e ∈ blkV T x f k o, o ≤ e.2 ∧ e.2 + wdN S x e.1.toNat ≤ o + wdN S x k := by
  intro f
  induction f with
  | zero => intro k o hf; omega
  | succ f ihq =>
    intro k o hf hk e he
    obtain ⟨o1, o2, -⟩ := h.op (k : Int)
    obtain ⟨i1, i2⟩ := h.2.2.1 k hk
    by_cases hi : mInner T (x + k)
    · obtain ⟨j, l, ek, c7, c6, t8, t7, lj, ej, ea, t9, c5⟩ := h.two hk hi
      have w := (wd_two h.1.2 hk (by rw [← o1]; exact hi.1) (by rw [← o2, hi.2]; decide) (i2.symm.trans c7) (i1.symm.trans c6)).1
      rw [(blk_i hi).2.2, t7, t8, t9] at he
      rcases List.mem_cons.mp he with y | y
      · rw [y]
        exact ⟨Int.le_refl _, by show o + (wdN S x ((k : Int)).toNat : Int) ≤ o + wdN S x k; rw [Int.toNat_natCast]; omega⟩
      · rcases List.mem_append.mp y with y | y
        · have := ihq l o (by omega) (by omega) e y; omega
        · have := ihq j _ (by omega) (by omega) e y; omega
    · by_cases hf2 : isFlt (T 256 (x + k))
      · obtain ⟨j, ek, c7, c6, t7, ea⟩ := h.one hk (by rw [← o1]; exact dOp_flt hf2)
        have w := (wd_flt h.1.2 hk (by rw [← o1]; exact hf2) (i1.symm.trans c6)).1
        rw [(blk_f hi hf2).2.2, t7] at he
        rcases List.mem_cons.mp he with y | y
        · rw [y]
          exact ⟨Int.le_refl _, by show o + (wdN S x ((k : Int)).toNat : Int) ≤ o + wdN S x k; rw [Int.toNat_natCast]; omega⟩
        · have := ihq j o (by omega) (by omega) e y; omega
      · rw [(blk_l hi hf2).2.2] at he
        rw [List.mem_singleton.mp he]
        exact ⟨Int.le_refl _, by show o + (wdN S x ((k : Int)).toNat : Int) ≤ o + wdN S x k; rw [Int.toNat_natCast]; omega⟩
/-- nodes that are marked, in rising order, and those of a part of the block: the same up to order -/
theorem asc_perm (h : Qk I S T q x n) (hq0 : 10000 ≤ q) (ht : top < n) (n12 : n ≤ 12) {P : Nat → Prop} {R : List (Int × Int)} {m : Nat} (hm : m ≤ n) (hs : R.Sublist (blkV T x n top 0)) (hR : ∀ e, e ∈ R → e.1 < m) (hP : ∀ j : Nat, j < m → (P j ↔ ∃ v, ((j : Int), v) ∈ R)) :
    ((lvR P 0 m).map (fun j : Nat => ((j : Int), rcI I q top 1388 (j : Int)))).Perm R := by
  have r2 := (reach_all h hq0 ht n12).2
  have nd : (R.map Prod.fst).Nodup := (blk_nodup h n top 0 ht ht).sublist (hs.map _)
  have nd2 : R.Nodup := nodup_of_map nd
  have nd1 : ((lvR P 0 m).map (fun j : Nat => ((j : Int), rcI I q top 1388 (j : Int)))).Nodup := nodup_map_on (fun a _ b _ e => by
    have := congrArg Prod.fst e
    have : (a : Int) = b := this
    omega) (lvR_nodup m)
  refine (List.perm_ext_iff_of_nodup nd1 nd2).mpr (fun e => ?_)
  rw [List.mem_map]
  constructor
  · rintro ⟨j, hj, ej⟩
    obtain ⟨⟨-, jm⟩, pj⟩ := (lvR_mem m j).mp hj
    obtain ⟨v, hv⟩ := (hP j (by omega)).mp pj
    have := (r2 _ (hs.subset hv)).2.2
    rw [← ej, show rcI I q top 1388 (j : Int) = v from this]
    exact hv
  · intro he
    obtain ⟨⟨e0, -⟩, -, e2⟩ := r2 e (hs.subset he)
    have em := hR e he
    refine ⟨e.1.toNat, (lvR_mem m _).mpr ⟨⟨Nat.zero_le _, by omega⟩, (hP _ (by omega)).mpr ⟨e.2, ?_⟩⟩, ?_⟩
    · rw [show ((e.1.toNat : Nat) : Int) = e.1 by omega]; exact he
    · show (((e.1.toNat : Nat) : Int), rcI I q top 1388 ((e.1.toNat : Nat) : Int)) = e
      rw [show ((e.1.toNat : Nat) : Int) = e.1 by omega, e2]
end
