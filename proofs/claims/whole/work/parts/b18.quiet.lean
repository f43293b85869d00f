/-! the schema changes while none is under way -/
section
variable {I I' S S' : IT} {n N g : Nat} {lv mv : Nat → Nat} {q : Int}
theorem ER.quiet (h : ER I S n N g lv mv q) (hl : ∀ j, j < n → lv j < 15 ∧ mv j < 15) (hg : g < 10) (hno : ∀ i, ¬ opS S n i) (hI : ∀ o, ¬ (1032 ≤ o ∧ o < 1064) ∧ ¬ (10000 ≤ o ∧ o < 12000) → I' o = I o) (hS : ∀ o k, ¬ (201 ≤ o ∧ o ≤ 213) → o ≠ 263 → ¬ (o = 100 ∧ (k = 0 ∨ k = 8)) → S' o k = S o k) (hsch : RSch I' S' ∧ SSch S') (hmb : MB S') (hck : SChk S' 4) : ER I' S' n N g lv mv q := by
  have n60 := h.cnt.2.2.1
  have fo : ∀ o, (o < 201 ∨ 213 < o) → o ≠ 263 → o ≠ 100 → S' o = S o := fun o a b c => funext (fun k => hS o k (fun z => by omega) b (fun z => c z.1))
  have f1 : ∀ k, k ≠ 0 → k ≠ 8 → S' 100 k = S 100 k := fun k a b => hS 100 k (fun z => by omega) (by decide) (fun z => z.2.elim a b)
  have e221 := fo 221 (by decide) (by decide) (by decide)
  have hno' : ∀ i, ¬ opS S' n i := fun i => by unfold opS; rw [e221]; exact hno i
  have e44 := f1 44 (by decide) (by decide)
  have wR : ∀ r j t y, wrR S' r j t y ↔ wrR S r j t y := fun r j t y => wrR_of (fun o a b => fo o (by omega) (by omega) (by omega)) e44
  have rds : ∀ j : Int, ∀ t y, mRead S' j t y ↔ mRead S j t y := fun j t y => by
    unfold mRead
    rw [fo 233 (by decide) (by decide) (by decide), fo 234 (by decide) (by decide) (by decide), fo 235 (by decide) (by decide) (by decide), fo 236 (by decide) (by decide) (by decide)]
  have tx : ∀ j, j < n → ∀ a, a < 128 → I' (tX j + a) = I (tX j + a) := fun j hj a ha => hI _ (by unfold tX; omega)
  have tx0 : ∀ j, j < n → I' (tX j) = I (tX j) := fun j hj => tx j hj 0 (by decide)
  have lgI : ∀ (r : Int) k, lgF I' g r k = lgF I g r k := fun r k => by unfold lgF; rw [hI _ (by omega)]
  have e14 := fo 214 (by decide) (by decide) (by decide)
  have e15 := fo 215 (by decide) (by decide) (by decide)
  have e61 := hI 1161 (by decide)
  have z246 := fo 246 (by decide) (by decide) (by decide)
  have z247 := fo 247 (by decide) (by decide) (by decide)
  have z248 := fo 248 (by decide) (by decide) (by decide)
  have z249 := fo 249 (by decide) (by decide) (by decide)
  refine ⟨hsch, hmb, ⟨(f1 19 (by decide) (by decide)).trans h.cnt.1, e44.trans h.cnt.2.1, n60, h.cnt.2.2.2⟩, fun j hj => ?_, by rw [e221, fo 225 (by decide) (by decide) (by decide)]; exact h.ph, h.ac.cut (fun y => Or.inl (by rw [fo 225 (by decide) (by decide) (by decide)])), ⟨fun a b ha => absurd ha (hno' a), fun p p0 p1 => ?_⟩, fun j hj => absurd hj (hno' j), ⟨⟨(h.st.1.1.of (fun z _ _ => by rw [e61])).ofS (fun k => congrFun e14 k) (fun k => congrFun e15 k), h.st.1.2.of (fun z _ _ => by rw [e61])⟩, h.st.2.1.of (fun k => congrFun e14 k) (fun k => congrFun e15 k), hck⟩, ?_, ?_, ?_, ⟨fun j hj => absurd hj (hno' j), ?_⟩, ?_, fun j hj => absurd hj (hno' j), ⟨?_, fun j hj => absurd hj (hno' j)⟩, fun j hj => absurd hj (hno' j), fun j hj => absurd hj (hno' j), ⟨fun j r t y hj h21 h1 h3 c c0 c'1 => ?_, fun t y t0 t1 h1 => ?_⟩, ?_, fun j hj h1 => absurd (show opS S' n j from ⟨hj, by omega⟩) (hno' j)⟩
  · obtain ⟨t, r⟩ := h.tx j hj
    have l15 := (hl j hj).1
    refine ⟨?_, (r.ofI (by rw [tx0 j hj]) (by rw [tx0 j hj]) (by rw [Nat.add_assoc]; exact tx j hj _ (by omega)) (by rw [Nat.add_assoc]; exact tx j hj _ (by omega))).ofS (fun t y _ _ => ⟨rds _ t y, by rw [fo 236 (by decide) (by decide) (by decide)]⟩)⟩
    rw [tx0 j hj, fo 220 (by decide) (by decide) (by decide), fo 224 (by decide) (by decide) (by decide), e221, fo 222 (by decide) (by decide) (by decide), fo 225 (by decide) (by decide) (by decide)]
    exact t
  · rw [fo 226 (by decide) (by decide) (by decide), h.sl.2 p p0 p1]
    exact ⟨fun ⟨j, a, _⟩ => absurd a (hno j), fun ⟨j, a, _⟩ => absurd a (hno' j)⟩
  · have z := h.sp
    rw [fo 217 (by decide) (by decide) (by decide), fo 218 (by decide) (by decide) (by decide), f1 16 (by decide) (by decide), f1 45 (by decide) (by decide), fo 224 (by decide) (by decide) (by decide), hI 1070 (by decide), hI 1071 (by decide), hI 1064 (by decide)]
    exact z
  · rw [hI 1192 (by decide), f1 45 (by decide) (by decide)]
    refine ⟨h.lg.1, fun r hr => ?_⟩
    rw [lgI, lgI, lgI, lgI, z246, z247, z248, z249]
    exact h.lg.2 r hr
  · rw [z246, z247, z248, z249]; exact h.lr
  · rw [e221, z246, z247]; exact h.lo.2
  · rw [z246, z247]; exact h.le
  · intro z z0 z1
    rw [hI 1069 (by decide)]
    exact (h.wr.1 z z0 z1).imp id (fun ⟨j, a, _⟩ => absurd a (hno j))
  · rw [e221] at h21
    rw [lgI, rwCell_of e61]
    exact h.v2.1 j r t y hj h21 ((wR _ _ _ _).mp h1) (fun p k hp hk h22 z => h3 p k hp hk (by rw [e221]; exact h22) ((wR _ _ _ _).mpr z)) c c0 c'1
  · rw [(rwF_of e61 t y).2]
    exact h.v2.2 t y t0 t1 (fun p k hk h22 z => h1 p k hk (by rw [e221]; exact h22) ((wR _ _ _ _).mpr z))
  · rw [fo 233 (by decide) (by decide) (by decide), fo 234 (by decide) (by decide) (by decide)]; exact h.rd
theorem cnt_none : ∀ n : Nat, cntI (fun _ => False) n = 0 := by
  intro n
  induction n with
  | zero => rfl
  | succ n ih =>
    show cntI (fun _ => False) n + bI False = 0
    rw [ih, bI0 (fun z => z)]; rfl
/-- whether one is under way -/
theorem busy_eq (h : ER I S n N g lv mv q) : bI (0 < opN I n) = 0 ↔ ∀ i, ¬ opS S n i := by
  rw [opN_eq h]
  constructor
  · intro z i hi
    have : ¬ 0 < opC S n := bIe z
    have u := cntI_lt (g := fun _ => False) (h := fun j => S 221 j < 2) n i hi.1 (fun _ _ w => w.elim) (fun w => w) hi.2
    have v := (cntI_rg (fun _ => False) n).1
    unfold opC at this
    omega
  · intro z
    refine bI0 (fun w => ?_)
    have u := cntI_le (g := fun j => S 221 j < 2) (h := fun _ => False) n (fun j hj w => z j ⟨hj, w⟩)
    have v := cnt_none n
    unfold opC at w
    omega
end
