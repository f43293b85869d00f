/-! the leaves of a block lie side by side -/
section
variable {I S T U : IT} {x : Int} {n q : Nat}
theorem wd_at (hq : QV S x n) {k i : Nat} (hk : k < n) {e : Nat × Nat} {l : Nat} (h : (wsT S x k)[i]? = some e) (hl : (rtT S x k).getD i (-1) = l) : e.1 = wdN S x l := by
  have il : i < (rtT S x k).length := by
    rw [rtT_len hq k (by omega)]; exact (List.getElem?_eq_some_iff.mp h).1
  have g0q := List.getElem?_eq_getElem il
  rw [getD_some g0q] at hl
  obtain ⟨ezq, z1q, z2q⟩ := wst_at hq k (by omega) i _ g0q
  rw [h] at z1q
  rw [Option.some.inj z1q, z2q, hl, Int.toNat_natCast]
theorem wd_top {k : Nat} {e : Nat × Nat} {rs : WST} (h : ws1 (S 201) (S 256 (x + k)) (S 257 (x + k)) (wsT S x k) = e :: rs) : wdN S x k = e.1 := by
  unfold wdN
  rw [show wsT S x (k + 1) = ws1 (S 201) (S 256 (x + k)) (S 257 (x + k)) (wsT S x k) from rfl, h]; rfl
theorem wd_two (hq : QV S x n) {k j l : Nat} (hk : k < n) (h4 : S 256 (x + k) = 4) (h0 : S 257 (x + k) ≤ 2) (hj : nd2 S x k = j) (hl : nd1 S x k = l) : wdN S x k = wdN S x l + wdN S x j ∧ (0 ≤ S 258 (x + k) ∧ S 258 (x + k) < wdN S x l) ∧ 0 ≤ S 259 (x + k) ∧ S 259 (x + k) < wdN S x j := by
  obtain ⟨eh, dh, rs, est, -, gB, gC⟩ := (hq.2 k hk).2.2.2.1 h4
  have d : dOp (S 256 (x + k)) = 2 := by rw [h4]; rfl
  unfold nd2 at hj
  unfold nd1 at hl
  rw [if_pos d] at hj
  rw [if_neg (by omega), if_pos d] at hl
  have a1 := wd_at hq hk (i := 0) (e := eh) (by rw [est]; rfl) hj
  have a2 := wd_at hq hk (i := 1) (e := dh) (by rw [est]; rfl) hl
  have a3 := wd_top (S := S) (x := x) (k := k) (by rw [est]; exact ws1_j h4)
  rw [a3, ← a1, ← a2]
  refine ⟨?_, gB, gC⟩
  show (if 2 < S 257 (x + k) then dh.1 else dh.1 + eh.1) = dh.1 + eh.1
  rw [if_neg (by omega)]
theorem wd_flt (hq : QV S x n) {k j : Nat} (hk : k < n) (h : isFlt (S 256 (x + k))) (hj : nd1 S x k = j) : wdN S x k = wdN S x j ∧ 0 ≤ S 257 (x + k) ∧ S 257 (x + k) < wdN S x j := by
  unfold isFlt at h
  obtain ⟨eh, rs, est, gI⟩ := (hq.2 k hk).2.2.1 (by omega) (by omega)
  have d : dOp (S 256 (x + k)) = 1 := dOp_flt h
  unfold nd1 at hj
  rw [if_neg (by omega), if_neg (by omega)] at hj
  have a1 := wd_at hq hk (i := 0) (e := eh) (by rw [est]; rfl) hj
  have a3 := wd_top (S := S) (x := x) (k := k) (by rw [est]; exact ws1_f (by omega) (by omega))
  rw [a3, ← a1]
  exact ⟨rfl, gI.1⟩
theorem wd_rg (hs : SSch S) (hq : QV S x n) {k : Nat} (hk : k < n) : 1 ≤ wdN S x k ∧ wdN S x k ≤ 10 := by
  obtain ⟨-, exq, hxq⟩ := ws1_shape (col := S 201) (hq.2 k hk)
  have e1q : wsT S x (k + 1) = exq :: (wsT S x k).drop (dOp (S 256 (x + k))) := hxq
  have ok := (wsT_ok hs hq (k + 1) (by omega)).1
  rw [e1q] at ok
  rw [wd_top hxq]
  exact ok.1.1
/-- leaves whose columns lie side by side, from o up to e -/
def Ct (S : IT) (x : Int) : Int → List (Int × Int) → Int → Prop
  | o, [], e => o = e
  | o, p :: l, e => p.2 = o ∧ Ct S x (o + (wdN S x p.1.toNat : Int)) l e
theorem Ct.app {l2 : List (Int × Int)} {m e : Int} (h2 : Ct S x m l2 e) : ∀ {l1 : List (Int × Int)} {o : Int}, Ct S x o l1 m → Ct S x o (l1 ++ l2) e := by
  intro l1
  induction l1 with
  | nil => intro o h; rw [show o = m from h]; exact h2
  | cons p l1 ihq => intro o h; exact ⟨h.1, ihq h.2⟩
/-- the leaves among m operators from a on -/
noncomputable def lvR (P : Nat → Prop) (a : Nat) : Nat → List Nat
  | 0 => []
  | m + 1 => if bI (P (a + m)) = 1 then lvR P a m ++ [a + m] else lvR P a m
theorem lvR_yes {P : Nat → Prop} {a m : Nat} (h : P (a + m)) : lvR P a (m + 1) = lvR P a m ++ [a + m] := if_pos (bI1 h)
theorem lvR_no {P : Nat → Prop} {a m : Nat} (h : ¬ P (a + m)) : lvR P a (m + 1) = lvR P a m := if_neg (by rw [bI0 h]; decide)
theorem lvR_add {P : Nat → Prop} {a m : Nat} : ∀ m2 : Nat, lvR P a (m + m2) = lvR P a m ++ lvR P (a + m) m2 := by
  intro m2
  induction m2 with
  | zero => exact (List.append_nil _).symm
  | succ m2 ihq =>
    rw [← Nat.add_assoc]
    by_cases y : P (a + (m + m2))
    · rw [lvR_yes y, lvR_yes (by rw [Nat.add_assoc]; exact y), ihq, List.append_assoc, Nat.add_assoc]
    · rw [lvR_no y, lvR_no (by rw [Nat.add_assoc]; exact y), ihq]
theorem lvR_none {P : Nat → Prop} {a : Nat} : ∀ m : Nat, (∀ j, a ≤ j → j < a + m → ¬ P j) → lvR P a m = [] := by
  intro m
  induction m with
  | zero => exact fun _ => rfl
  | succ m ihq => intro h; rw [lvR_no (h _ (by omega) (by omega))]; exact ihq (fun j j0 j1 => h j j0 (by omega))
theorem lvR_mem {P : Nat → Prop} {a : Nat} : ∀ (m j : Nat), j ∈ lvR P a m ↔ (a ≤ j ∧ j < a + m) ∧ P j := by
  intro m
  induction m with
  | zero => intro j; exact ⟨fun z => (List.not_mem_nil z).elim, fun z => by omega⟩
  | succ m ihq =>
    intro j
    by_cases y : P (a + m)
    · rw [lvR_yes y, List.mem_append, List.mem_singleton, ihq]
      constructor
      · rintro (z | z)
        · exact ⟨by omega, z.2⟩
        · exact ⟨by omega, z ▸ y⟩
      · rintro ⟨z1, z2⟩
        by_cases w : j = a + m
        · exact Or.inr w
        · exact Or.inl ⟨by omega, z2⟩
    · rw [lvR_no y, ihq]
      constructor
      · exact fun z => ⟨by omega, z.2⟩
      · rintro ⟨z1, z2⟩
        exact ⟨⟨z1.1, by
          have : j ≠ a + m := fun w => y (w ▸ z2)
          omega⟩, z2⟩
theorem lvR_nodup {P : Nat → Prop} {a : Nat} : ∀ m : Nat, (lvR P a m).Nodup := by
  intro m
  induction m with
  | zero => exact List.nodup_nil
  | succ m ihq =>
    by_cases y : P (a + m)
    · rw [lvR_yes y]
      refine List.nodup_append.mpr ⟨ihq, List.nodup_cons.mpr ⟨List.not_mem_nil, List.nodup_nil⟩, fun u hu v hv => ?_⟩
      rw [List.mem_singleton.mp hv]
      have := ((lvR_mem m u).mp hu).1
      omega
    · rw [lvR_no y]; exact ihq
/-- a block's nodes lie below it -/
theorem blkV_rg (h : Qk I S T q x n) : ∀ (f k : Nat) (o : Int), k < f → k < n → ∀ e ∈ blkV T x f k o, sA S x k ≤ e.1 ∧ e.1 ≤ k := by
  intro f
  induction f with
  | zero => intro k o hf; omega
  | succ f ihq =>
    intro k o hf hk e he
    have ar := sA_rg (S := S) (x := x) (k := k)
    by_cases hi : mInner T (x + k)
    · obtain ⟨j, l, ek, c7, c6, t8, t7, lj, ej, ea, t9, c5⟩ := h.two hk hi
      rw [(blk_i hi).2.2, t7, t8] at he
      have arj := sA_rg (S := S) (x := x) (k := j)
      have arl := sA_rg (S := S) (x := x) (k := l)
      rcases List.mem_cons.mp he with w | w
      · rw [w]; exact ⟨ar.2, Int.le_refl _⟩
      · rcases List.mem_append.mp w with w | w
        · have := ihq l _ (by omega) (by omega) e w; omega
        · have := ihq j _ (by omega) (by omega) e w; omega
    · by_cases hf2 : isFlt (T 256 (x + k))
      · obtain ⟨j, ek, c7, c6, t7, ea⟩ := h.one hk (by rw [← (h.op (k : Int)).1]; exact dOp_flt hf2)
        rw [(blk_f hi hf2).2.2, t7] at he
        rcases List.mem_cons.mp he with w | w
        · rw [w]; exact ⟨ar.2, Int.le_refl _⟩
        · have := ihq j _ (by omega) (by omega) e w; omega
      · rw [(blk_l hi hf2).2.2] at he
        rw [List.mem_singleton.mp he]
        exact ⟨ar.2, Int.le_refl _⟩
theorem blk_nodup (h : Qk I S T q x n) : ∀ (f k : Nat) (o : Int), k < f → k < n → ((blkV T x f k o).map Prod.fst).Nodup := by
  intro f
  induction f with
  | zero => intro k o hf; omega
  | succ f ihq =>
    intro k o hf hk
    by_cases hi : mInner T (x + k)
    · obtain ⟨j, l, ek, c7, c6, t8, t7, lj, ej, ea, t9, c5⟩ := h.two hk hi
      rw [(blk_i hi).2.2, t7, t8, List.map_cons, List.map_append]
      refine List.nodup_cons.mpr ⟨fun z => ?_, List.nodup_append.mpr ⟨ihq l _ (by omega) (by omega), ihq j _ (by omega) (by omega), fun u hu v hv => ?_⟩⟩
      · rcases List.mem_append.mp z with w | w
        · obtain ⟨e, he, ee⟩ := List.mem_map.mp w
          have := blkV_rg h f l _ (by omega) (by omega) e he
          have : e.1 = (k : Int) := ee
          omega
        · obtain ⟨e, he, ee⟩ := List.mem_map.mp w
          have := blkV_rg h f j _ (by omega) (by omega) e he
          have : e.1 = (k : Int) := ee
          omega
      · obtain ⟨e, he, ee⟩ := List.mem_map.mp hu
        obtain ⟨d, hd, ed⟩ := List.mem_map.mp hv
        have := blkV_rg h f l _ (by omega) (by omega) e he
        have := blkV_rg h f j _ (by omega) (by omega) d hd
        omega
    · by_cases hf2 : isFlt (T 256 (x + k))
      · obtain ⟨j, ek, c7, c6, t7, ea⟩ := h.one hk (by rw [← (h.op (k : Int)).1]; exact dOp_flt hf2)
        rw [(blk_f hi hf2).2.2, t7, List.map_cons]
        refine List.nodup_cons.mpr ⟨fun z => ?_, ihq j _ (by omega) (by omega)⟩
        obtain ⟨e, he, ee⟩ := List.mem_map.mp z
        have := blkV_rg h f j _ (by omega) (by omega) e he
        have : e.1 = (k : Int) := ee
        omega
      · rw [(blk_l hi hf2).2.2]
        exact List.nodup_cons.mpr ⟨List.not_mem_nil, List.nodup_nil⟩
theorem blk_ct (h : Qk I S T q x n) : ∀ (f k : Nat) (o : Int), k < f → k < n → Ct S x o (blkL T x f k o) (o + wdN S x k) := by
  intro f
  induction f with
  | zero => intro k o hf; omega
  | succ f ihq =>
    intro k o hf hk
    obtain ⟨o1, o2, -⟩ := h.op (k : Int)
    obtain ⟨i1, i2⟩ := h.2.2.1 k hk
    by_cases hi : mInner T (x + k)
    · obtain ⟨j, l, ek, c7, c6, t8, t7, lj, ej, ea, t9, c5⟩ := h.two hk hi
      have w := (wd_two h.1.2 hk (by rw [← o1]; exact hi.1) (by rw [← o2, hi.2]; decide) (i2.symm.trans c7) (i1.symm.trans c6)).1
      rw [(blk_i hi).1, t7, t8, t9]
      have b := ihq j (o + wdN S x l) (by omega) (by omega)
      rw [show o + (wdN S x l : Int) + wdN S x j = o + wdN S x k by omega] at b
      exact Ct.app b (ihq l o (by omega) (by omega))
    · by_cases hf2 : isFlt (T 256 (x + k))
      · obtain ⟨j, ek, c7, c6, t7, ea⟩ := h.one hk (by rw [← o1]; exact dOp_flt hf2)
        have w := (wd_flt h.1.2 hk (by rw [← o1]; exact hf2) (i1.symm.trans c6)).1
        rw [(blk_f hi hf2).1, t7, w]
        exact ihq j o (by omega) (by omega)
      · rw [(blk_l hi hf2).1]
        refine ⟨rfl, ?_⟩
        show o + (wdN S x ((k : Int)).toNat : Int) = o + wdN S x k
        rw [Int.toNat_natCast]
/-- the leaves in rising order are the leaves from left to right -/
theorem blk_asc (h : Qk I S T q x n) {P M : Nat → Prop} (hP : ∀ j, j < n → (P j ↔ M j ∧ ¬ mInner T (x + (j : Int)) ∧ ¬ isFlt (T 256 (x + (j : Int))))) : ∀ (f k : Nat) (o : Int), k < f → k < n → (∀ j : Nat, sA S x k ≤ j → j ≤ k → (M j ↔ ∃ v, ((j : Int), v) ∈ blkV T x f k o)) → (lvR P (sA S x k).toNat (k + 1 - (sA S x k).toNat)).map (fun j : Nat => (j : Int)) = (blkL T x f k o).map Prod.fst := by
  intro f
  induction f with
  | zero => intro k o hf; omega
  | succ f ihq =>
    intro k o hf hk hm
    have ar := sA_rg (S := S) (x := x) (k := k)
    have last : k + 1 - (sA S x k).toNat = (k - (sA S x k).toNat) + 1 := by omega
    have lk : (sA S x k).toNat + (k - (sA S x k).toNat) = k := by omega
    have pk := hP k hk
    by_cases hi : mInner T (x + k)
    · obtain ⟨j, l, ek, c7, c6, t8, t7, lj, ej, ea, t9, c5⟩ := h.two hk hi
      have arj := sA_rg (S := S) (x := x) (k := j)
      have arl := sA_rg (S := S) (x := x) (k := l)
      rw [last, lvR_no (by rw [lk]; exact fun z => (pk.mp z).2.1 hi), (blk_i hi).1, t7, t8, t9]
      rw [show k - (sA S x k).toNat = (l + 1 - (sA S x l).toNat) + (j + 1 - (sA S x j).toNat) by omega, lvR_add, ea, show (sA S x l).toNat + (l + 1 - (sA S x l).toNat) = (sA S x j).toNat by omega, List.map_append, List.map_append]
      rw [(blk_i hi).2.2, t7, t8, t9] at hm
      rw [ihq l o (by omega) (by omega) (fun z z0 z1 => ?_), ihq j (o + wdN S x l) (by omega) (by omega) (fun z z0 z1 => ?_)]
      · rw [hm z (by omega) (by omega)]
        constructor
        · rintro ⟨v, hv⟩
          rcases List.mem_cons.mp hv with w | w
          · have : (z : Int) = k := congrArg Prod.fst w
            omega
          · rcases List.mem_append.mp w with w | w
            · have : (z : Int) ≤ l := (blkV_rg h f l o (by omega) (by omega) _ w).2
              omega
            · exact ⟨v, w⟩
        · rintro ⟨v, hv⟩
          exact ⟨v, List.mem_cons_of_mem _ (List.mem_append_right _ hv)⟩
      · rw [hm z (by omega) (by omega)]
        constructor
        · rintro ⟨v, hv⟩
          rcases List.mem_cons.mp hv with w | w
          · have : (z : Int) = k := congrArg Prod.fst w
            omega
          · rcases List.mem_append.mp w with w | w
            · exact ⟨v, w⟩
            · have : sA S x j ≤ (z : Int) := (blkV_rg h f j _ (by omega) (by omega) _ w).1
              omega
        · rintro ⟨v, hv⟩
          exact ⟨v, List.mem_cons_of_mem _ (List.mem_append_left _ hv)⟩
    · by_cases hf2 : isFlt (T 256 (x + k))
      · obtain ⟨j, ek, c7, c6, t7, ea⟩ := h.one hk (by rw [← (h.op (k : Int)).1]; exact dOp_flt hf2)
        have arj := sA_rg (S := S) (x := x) (k := j)
        rw [last, lvR_no (by rw [lk]; exact fun z => (pk.mp z).2.2 hf2), (blk_f hi hf2).1, t7, ea, show k - (sA S x j).toNat = j + 1 - (sA S x j).toNat by omega]
        rw [(blk_f hi hf2).2.2, t7] at hm
        refine ihq j o (by omega) (by omega) (fun z z0 z1 => ?_)
        rw [hm z (by omega) (by omega)]
        constructor
        · rintro ⟨v, hv⟩
          rcases List.mem_cons.mp hv with w | w
          · have : (z : Int) = k := congrArg Prod.fst w
            omega
          · exact ⟨v, w⟩
        · rintro ⟨v, hv⟩
          exact ⟨v, List.mem_cons_of_mem _ hv⟩
      · rw [(blk_l hi hf2).2.2] at hm
        have mk := (hm k (by omega) (Nat.le_refl _)).mpr ⟨o, List.mem_singleton.mpr rfl⟩
        rw [last, lvR_yes (by rw [lk]; exact pk.mpr ⟨mk, hi, hf2⟩), (blk_l hi hf2).1, lk, lvR_none]
        · rfl
        · intro z z0 z1 hz
          have hz2 := ((hP z (by omega)).mp hz).1
          obtain ⟨v, hv⟩ := (hm z (by omega) (by omega)).mp hz2
          have : (z : Int) = k := congrArg Prod.fst (List.mem_singleton.mp hv)
          omega
end
