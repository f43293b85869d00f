/-! who may commit: class and reference -/
section
variable {I S : IT} {n N g i : Nat} {lv mv : Nat → Nat} {q : Int}
theorem fpO_no {t y : Int} (h : ¬ (-1000 ≤ y ∧ y ≤ 1000)) : fpO t y = -1 := if_neg h
theorem stale_eq (h : ER I S n N g lv mv q) (hi : i < n) (hN : TxN I i (lv i) (mv i)) : stG I i (lv i) ↔ mOld S i := by
  have t := (h.tx i hi).1
  obtain ⟨w1, w2⟩ := (h.tx i hi).2
  obtain ⟨⟨s1, s2, -⟩, -, s4, -, -⟩ := h.sp
  -- a table read whole
  have wh : ∀ x : Int, 0 ≤ x → x < 6 → (stT I i x ↔ mOldT S i x) := fun x x0 x1 => by
    unfold stT mOldT
    rw [w1 x x0 x1, t.2.2.1, s2 x x0 x1]
    have := h.mb.who (6 * i + x)
    exact ⟨fun z => ⟨by omega, z.2⟩, fun z => ⟨by omega, z.2⟩⟩
  have stamp : ∀ x y : Int, 0 ≤ x → x < 6 → -1000 ≤ y → y ≤ 1000 → S 224 i < S 217 (2001 * x + y + 1000) → S 224 i < S 218 x := fun x y x0 x1 y0 y1 z => by
    have := s4 x y x0 x1 y0 y1
    omega
  unfold stG mOld
  constructor
  · rintro (⟨x, x0, x1, z⟩ | ⟨j, j0, j1, z⟩)
    · exact Or.inl ⟨x, x0, x1, (wh x x0 x1).mp z⟩
    · have t6 := hN.2.2.1 j j0 j1
      unfold stK csG at z
      have yr : -1000 ≤ I (tX i + 60 + lv i) j ∧ I (tX i + 60 + lv i) j ≤ 1000 := Classical.byContradiction (fun w => z.1 (fpO_no w))
      obtain ⟨fe, f0, f1⟩ := fpO_in t6 yr
      rw [s1 _ f0 f1, fe, t.2.2.1] at z
      have rd : mRead S i (I (tX i + 40 + lv i) j) (I (tX i + 60 + lv i) j) := (w2 _ _ t6.1 t6.2).mp (Or.inr (rdOf_iff.mpr ⟨j, j0, j1, rfl, rfl⟩))
      rcases rd with a | ⟨k, k0, k1, e1, e2⟩
      · exact Or.inl ⟨_, t6.1, t6.2, by unfold mOldT; rw [a]; exact ⟨by decide, stamp _ _ t6.1 t6.2 yr.1 yr.2 z.2⟩⟩
      · refine Or.inr ⟨k, k0, k1, ?_⟩
        unfold mOldK
        rw [e1, e2]
        exact ⟨yr, z.2⟩
  · rintro (⟨x, x0, x1, z⟩ | ⟨k, k0, k1, yr, z⟩)
    · exact Or.inl ⟨x, x0, x1, (wh x x0 x1).mpr z⟩
    · have t6 := h.rd.2.1 k
      rcases (w2 (S 234 k) (S 235 k) t6.1 t6.2).mpr (Or.inr ⟨k, k0, k1, rfl, rfl⟩) with a | a
      · refine Or.inl ⟨S 234 k, t6.1, t6.2, a, ?_⟩
        rw [t.2.2.1, s2 _ t6.1 t6.2]
        exact stamp _ _ t6.1 t6.2 yr.1 yr.2 z
      · obtain ⟨j, j0, j1, e1, e2⟩ := rdOf_iff.mp a
        refine Or.inr ⟨j, j0, j1, ?_⟩
        unfold stK csG
        rw [e1, e2]
        obtain ⟨fe, f0, f1⟩ := fpO_in t6 yr
        rw [s1 _ f0 f1, fe, t.2.2.1]
        exact ⟨by omega, z⟩
theorem wb_eq (h : ER I S n N g lv mv q) (hi : opS S n i) {t y : Int} (ht : 0 ≤ t ∧ t < 6) : wbG I i t y ↔ Wm S i N t y := by
  have h44 := h.cnt.2.1
  unfold wbG
  constructor
  · rintro ⟨a, b⟩
    have yr : -1000 ≤ y ∧ y ≤ 1000 := Classical.byContradiction (fun w => a (fpO_no w))
    obtain ⟨r, r0, r1, r2, r3, r4, r5⟩ := (h.wr.2 i hi t y ht.1 ht.2 yr.1 yr.2).mp b
    exact ⟨r.toNat, by omega, by rw [show ((r.toNat : Nat) : Int) = r by omega]; exact ⟨r2, r3, r4, r5⟩⟩
  · rintro ⟨r, r1, r2, r3, r4, r5⟩
    have yr := (h.lr.2 r r2).2
    rw [r5] at yr
    obtain ⟨fe, f0, f1⟩ := fpO_in ht yr
    exact ⟨by omega, (h.wr.2 i hi t y ht.1 ht.2 yr.1 yr.2).mpr ⟨r, by omega, by omega, r2, r3, r4, r5⟩⟩
/-- what will be committed, of a table -/
def FinR (S : IT) (i N : Nat) (t : Int) (ρ : Rw4) : Prop := (Wm S i N t ρ.1 ∧ mIn S (S 223 i) t ρ) ∨ (¬ Wm S i N t ρ.1 ∧ mIn S 4 t ρ)
theorem cm_all (h : ER I S n N g lv mv q) (hi : opS S n i) : CmS S i (S 223 i) (S 100 16 + 1) N (mCmI S i) ∧ mCmI S i 100 16 = S 100 16 + 1 := by
  have := mCm_set (S := S) (i := i) (c := S 100 16 + 1) rfl (h.mb.pla i) (h.own i hi).2.1 h.st.2.1 h.lr.2 N
  unfold mCmI
  rw [h.cnt.2.1, show ((N : Int)).toNat = N by omega]
  exact this
theorem over_cnt (h : ER I S n N g lv mv q) (hi : opS S n i) {t : Int} (ht : 0 ≤ t ∧ t < 6) : ovN I i (tX i + 33) t 8 = mSz S i t N := by
  obtain ⟨C, -⟩ := cm_all h hi
  obtain ⟨d1, d2, d3, -⟩ := C
  obtain ⟨d3, d30⟩ := d3 t ht.1 ht.2
  obtain ⟨⟨o1, o2⟩, o3, -⟩ := h.own i hi
  obtain ⟨⟨b1, b2⟩, b3, -⟩ := h.st
  rw [← d3]
  unfold ovN
  rw [cntI_filter, cntI_filter]
  let LT : List Rw4 := (List.range (mCmI S i 214 (24 + t)).toNat).map (fun r : Nat => tbR (mCmI S i) 4 t (r : Int))
  let F1 : List Nat := (List.range 8).filter (fun p : Nat => @decide (I 1161 ((t * 8 + (p : Int)) * 4) ≠ -2147483648 ∧ ¬ wbG I i t (I 1161 ((t * 8 + (p : Int)) * 4))) (Classical.propDecidable _))
  let F2 : List Nat := (List.range 8).filter (fun p : Nat => @decide (wbG I i t (I (tX i + 33) ((t * 8 + (p : Int)) * 4))) (Classical.propDecidable _))
  let L1 : List Rw4 := F1.map (fun p : Nat => q4 (I 1161) ((t * 8 + (p : Int)) * 4))
  let L2 : List Rw4 := F2.map (fun p : Nat => q4 (I (tX i + 33)) ((t * 8 + (p : Int)) * 4))
  have m1 : ∀ p, p ∈ F1 ↔ p < 8 ∧ I 1161 ((t * 8 + (p : Int)) * 4) ≠ -2147483648 ∧ ¬ wbG I i t (I 1161 ((t * 8 + (p : Int)) * 4)) := fun p => by
    rw [List.mem_filter, List.mem_range]
    exact ⟨fun z => ⟨z.1, @of_decide_eq_true _ (Classical.propDecidable _) z.2⟩, fun z => ⟨z.1, @decide_eq_true _ (Classical.propDecidable _) z.2⟩⟩
  have m2 : ∀ p, p ∈ F2 ↔ p < 8 ∧ wbG I i t (I (tX i + 33) ((t * 8 + (p : Int)) * 4)) := fun p => by
    rw [List.mem_filter, List.mem_range]
    exact ⟨fun z => ⟨z.1, @of_decide_eq_true _ (Classical.propDecidable _) z.2⟩, fun z => ⟨z.1, @decide_eq_true _ (Classical.propDecidable _) z.2⟩⟩
  have nn : ∀ y, wbG I i t y → y ≠ -2147483648 := fun y z e => z.1 (fpO_no (by rw [e]; decide))
  have ndT : LT.Nodup := by
    refine nodup_map_on (fun x hx y hy e => ?_) List.nodup_range
    have x1 := List.mem_range.mp hx
    have y1 := List.mem_range.mp hy
    have := d2 t ht.1 ht.2 x y (by omega) (by omega) (by omega) (by omega) (congrArg Prod.fst e)
    omega
  have nd1 : L1.Nodup := by
    refine nodup_map_on (fun x hx y hy e => ?_) (List.Nodup.sublist List.filter_sublist List.nodup_range)
    have x1 := (m1 x).mp hx
    have y1 := (m1 y).mp hy
    have := b2.1 t _ _ ht.1 ht.2 (by omega) (by omega) (by omega) (by omega) x1.2.1 (congrArg Prod.fst e)
    omega
  have nd2 : L2.Nodup := by
    refine nodup_map_on (fun x hx y hy e => ?_) (List.Nodup.sublist List.filter_sublist List.nodup_range)
    have x1 := (m2 x).mp hx
    have y1 := (m2 y).mp hy
    have := o2.1 t _ _ ht.1 ht.2 (by omega) (by omega) (by omega) (by omega) (nn _ x1.2) (congrArg Prod.fst e)
    omega
  have e1 : ∀ ρ, ρ ∈ L1 ↔ ¬ Wm S i N t ρ.1 ∧ mIn S 4 t ρ := fun ρ => by
    rw [List.mem_map, ← b1 t ρ ht.1 ht.2, ← wb_eq h hi ht]
    constructor
    · rintro ⟨p, hp, rfl⟩
      have := (m1 p).mp hp
      exact ⟨this.2.2, _, by omega, by omega, this.2.1, rfl⟩
    · rintro ⟨hw, p, p0, p1, p2, rfl⟩
      refine ⟨(p - t * 8).toNat, (m1 _).mpr ⟨by omega, ?_⟩, ?_⟩
      · rw [show t * 8 + (((p - t * 8).toNat : Nat) : Int) = p by omega]; exact ⟨p2, hw⟩
      · rw [show t * 8 + (((p - t * 8).toNat : Nat) : Int) = p by omega]
  have e2 : ∀ ρ, ρ ∈ L2 ↔ Wm S i N t ρ.1 ∧ mIn S (S 223 i) t ρ := fun ρ => by
    rw [List.mem_map, ← o1 t ρ ht.1 ht.2, ← wb_eq h hi ht]
    constructor
    · rintro ⟨p, hp, rfl⟩
      have := (m2 p).mp hp
      exact ⟨this.2, _, by omega, by omega, nn _ this.2, rfl⟩
    · rintro ⟨hw, p, p0, p1, p2, rfl⟩
      refine ⟨(p - t * 8).toNat, (m2 _).mpr ⟨by omega, ?_⟩, ?_⟩
      · rw [show t * 8 + (((p - t * 8).toNat : Nat) : Int) = p by omega]; exact hw
      · rw [show t * 8 + (((p - t * 8).toNat : Nat) : Int) = p by omega]
  have nd : (L1 ++ L2).Nodup := List.nodup_append.mpr ⟨nd1, nd2, fun a ha b hb e => ((e1 a).mp ha).1 (by rw [e]; exact ((e2 b).mp hb).1)⟩
  have pm : (L1 ++ L2).Perm LT := (List.perm_ext_iff_of_nodup nd ndT).mpr (fun ρ => by
    rw [List.mem_append, e1, e2]
    have : ρ ∈ LT ↔ tIn (tbR (mCmI S i) 4 t) (mCmI S i 214 (24 + t)) ρ := by
      rw [List.mem_map]
      constructor
      · rintro ⟨r, hr, e⟩
        have := List.mem_range.mp hr
        exact ⟨r, by omega, by omega, e.symm⟩
      · rintro ⟨r, r0, r1, e⟩
        exact ⟨r.toNat, List.mem_range.mpr (by omega), by rw [show ((r.toNat : Nat) : Int) = r by omega]; exact e.symm⟩
    rw [this, d1 t ρ ht.1 ht.2]
    exact Or.comm)
  have len := pm.length_eq
  rw [List.length_append, List.length_map, List.length_map, List.length_map, List.length_range] at len
  show ((F1.length : Nat) : Int) + ((F2.length : Nat) : Int) = _
  omega
theorem over_eq (h : ER I S n N g lv mv q) (hi : opS S n i) (hW : ∀ r : Nat, r < N → S 246 r = 0 → S 248 r < S 100 0) : ovG I i (tX i + 33) ↔ mTooMuch S i := by
  have s6 := h.sch.2.1
  unfold ovG mTooMuch
  rw [h.cnt.2.1, show ((N : Int)).toNat = N by omega]
  constructor
  · rintro ⟨t, t0, t1, z⟩
    rw [over_cnt h hi ⟨t0, t1⟩] at z
    refine ⟨t, t0, Classical.byContradiction (fun w => ?_), z⟩
    -- no record of a table that is not there
    have no : ∀ m : Nat, m ≤ N → mSz S i t m = S 214 (24 + t) := by
      intro m
      induction m with
      | zero => intro _; rfl
      | succ m ih =>
        intro hm
        rw [mSz_no (fun y => by have := hW m (by omega) y.1; have := y.2.2.1; omega)]
        exact ih (by omega)
    rw [no N (Nat.le_refl _)] at z
    have := h.st.2.1.1 t t0 t1
    rw [show (6 * 4 + t : Int) = 24 + t by omega] at this
    omega
  · rintro ⟨t, t0, t1, z⟩
    exact ⟨t, t0, by omega, by rw [over_cnt h hi ⟨t0, by omega⟩]; exact z⟩
end
