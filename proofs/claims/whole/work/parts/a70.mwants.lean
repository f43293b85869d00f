/-! the rows that a delete of the reference writes, and what it reads -/
section
variable {X : IT} {i s : Int}
/-- a row that a delete writes, by its index -/
def wdG (X : IT) (s k : Int) : Prop := mRowIn X s k ∧ (X 239 k ≠ 0 ∨ mRefers X s (k.tdiv 64) (k.tmod 64) 2)
def wdK (X : IT) (s k : Int) : Int × Int := (k.tdiv 64, X 215 (mrow s (k.tdiv 64) (k.tmod 64)))
noncomputable def wdL (X : IT) (s : Int) : Nat → List (Int × Int)
  | 0 => []
  | n + 1 => if bI (wdG X s n) = 1 then wdL X s n ++ [wdK X s n] else wdL X s n
theorem wdL_y {n : Nat} (h : wdG X s n) : wdL X s (n + 1) = wdL X s n ++ [wdK X s n] := if_pos (bI1 h)
theorem wdL_n {n : Nat} (h : ¬ wdG X s n) : wdL X s (n + 1) = wdL X s n := if_neg (by rw [bI0 h]; decide)
theorem wdL_len : ∀ n : Nat, (wdL X s n).length ≤ n := by
  intro n
  induction n with
  | zero => exact Nat.le_refl _
  | succ n ih =>
    by_cases h : wdG X s n
    · rw [wdL_y h, List.length_append]; show _ + 1 ≤ _; omega
    · rw [wdL_n h]; omega
theorem wdL_mem {x : Int × Int} : ∀ n : Nat, x ∈ wdL X s n ↔ ∃ k : Nat, k < n ∧ wdG X s k ∧ x = wdK X s k := by
  intro n
  induction n with
  | zero => exact ⟨fun h => (by cases h), fun ⟨k, h, _⟩ => by omega⟩
  | succ n ih =>
    by_cases h : wdG X s n
    · rw [wdL_y h, List.mem_append, ih, List.mem_singleton]
      constructor
      · rintro (⟨k, a, b⟩ | e)
        · exact ⟨k, by omega, b⟩
        · exact ⟨n, by omega, h, e⟩
      · rintro ⟨k, a, b, c⟩
        by_cases e : k = n
        · subst e; exact Or.inr c
        · exact Or.inl ⟨k, by omega, b, c⟩
    · rw [wdL_n h, ih]
      constructor
      · rintro ⟨k, a, b⟩; exact ⟨k, by omega, b⟩
      · rintro ⟨k, a, b, c⟩
        by_cases e : k = n
        · subst e; exact absurd b h
        · exact ⟨k, by omega, b, c⟩
/-- the list that stands in the two arrays -/
def wtL (W : IT) (n : Nat) : List (Int × Int) := (List.range n).map (fun j : Nat => (W 242 (j : Int), W 243 (j : Int)))
theorem wtL_len {W : IT} {n : Nat} : (wtL W n).length = n := by unfold wtL; rw [List.length_map, List.length_range]
theorem wtL_get {W : IT} {n j : Nat} (h : j < n) : (wtL W n)[j]? = some (W 242 (j : Int), W 243 (j : Int)) := by
  unfold wtL
  rw [List.getElem?_map, List.getElem?_range h]; rfl
theorem wtL_succ {W : IT} {n : Nat} : wtL W (n + 1) = wtL W n ++ [(W 242 (n : Int), W 243 (n : Int))] := by
  unfold wtL
  rw [List.range_succ, List.map_append]; rfl
theorem wtL_of {W W' : IT} {n : Nat} (h : ∀ j : Nat, j < n → W' 242 (j : Int) = W 242 (j : Int) ∧ W' 243 (j : Int) = W 243 (j : Int)) : wtL W' n = wtL W n := by
  unfold wtL
  refine List.map_congr_left (fun j hj => ?_)
  have := h j (List.mem_range.mp hj)
  rw [this.1, this.2]
theorem wtL_wants {W : IT} {t key : Int} {n : Nat} (h : W 100 41 = n) : wtL (mwants W t key) (n + 1) = wtL W n ++ [(t, key)] := by
  rw [wtL_succ]
  have e1 : mwants W t key 242 (n : Int) = t := by unfold mwants; rw [h, up2_o _ _ _ _ (by decide), up2_o _ _ _ _ (by decide), up2_eq]
  have e2 : mwants W t key 243 (n : Int) = key := by unfold mwants; rw [h, up2_o _ _ _ _ (by decide), up2_eq]
  rw [e1, e2, wtL_of (W := W) (fun j hj => ⟨by unfold mwants; rw [up2_o _ _ _ _ (by decide), up2_o _ _ _ _ (by decide), up2_k _ _ _ _ (by omega)], by unfold mwants; rw [up2_o _ _ _ _ (by decide), up2_k _ _ _ _ (by omega), up2_o _ _ _ _ (by decide)]⟩)]
/-- what the first n rows of a delete leave -/
theorem mWd_set (hi : 0 ≤ i) (h41 : X 100 41 = 0) (h240 : ∀ k, 0 ≤ k → k < 384 → X 240 k = 0) : ∀ n : Nat, n ≤ 384 →
    (∀ o k, ¬ wdX o k → mWd i s n X o k = X o k) ∧ (mWd i s n X 100 41 = (wdL X s n).length) ∧ wtL (mWd i s n X) (wdL X s n).length = wdL X s n ∧
    (∀ k, 0 ≤ k → k < 384 → (mWd i s n X 240 k ≠ 0 ↔ k < n ∧ mRowIn X s k ∧ X 239 k = 0 ∧ mRefers X s (k.tdiv 64) (k.tmod 64) 2)) ∧
    MrD X (mWd i s n X) i (fun t' => ∃ k : Int, 0 ≤ k ∧ k < n ∧ mRowIn X s k ∧ X 239 k ≠ 0 ∧ ∃ q, 0 ≤ q ∧ q < 24 ∧ X 206 q = k.tdiv 64 ∧ q.tdiv 4 = t') (fun _ _ => False) 0 := by
  intro n
  induction n with
  | zero =>
    intro _
    refine ⟨fun _ _ _ => rfl, h41, rfl, fun k k0 k1 => ⟨fun z => absurd (h240 k k0 k1) z, fun z => by omega⟩, MrD.rf.iff (fun t _ _ => ⟨False.elim, fun ⟨k, a, b, _⟩ => by omega⟩) (fun _ _ => Iff.rfl) (by decide)⟩
  | succ n ih =>
    intro hn
    obtain ⟨fr, e41, eL, e240, mr⟩ := ih (by omega)
    have fX : ∀ o, o ≠ 236 → o ≠ 240 → o ≠ 242 → o ≠ 243 → o ≠ 100 → mWd i s n X o = X o := fun o h1 h2 h3 h4 h5 => funext (fun k => fr o k (by unfold wdX; omega))
    have eR : mRowIn (mWd i s n X) s n ↔ mRowIn X s n := by
      unfold mRowIn
      rw [fX 214 (by decide) (by decide) (by decide) (by decide) (by decide)]
    have e239 : mWd i s n X 239 n = X 239 n := fr 239 n (by unfold wdX; omega)
    have eF : mRefers (mWd i s n X) s ((n : Int).tdiv 64) ((n : Int).tmod 64) 2 ↔ mRefers X s ((n : Int).tdiv 64) ((n : Int).tmod 64) 2 := by
      unfold mRefers mBroken mfind
      rw [fX 201 (by decide) (by decide) (by decide) (by decide) (by decide), fX 206 (by decide) (by decide) (by decide) (by decide) (by decide), fX 207 (by decide) (by decide) (by decide) (by decide) (by decide), fX 214 (by decide) (by decide) (by decide) (by decide) (by decide), fX 215 (by decide) (by decide) (by decide) (by decide) (by decide), fX 239 (by decide) (by decide) (by decide) (by decide) (by decide)]
    have eK : (mWd i s n X) 215 (4 * (64 * (6 * s + (n : Int).tdiv 64) + (n : Int).tmod 64) + 0) = X 215 (mrow s ((n : Int).tdiv 64) ((n : Int).tmod 64)) := by
      rw [Int.add_zero, fX 215 (by decide) (by decide) (by decide) (by decide) (by decide)]
    have noW : ∀ t' : Int, ¬ (mRowIn X s n ∧ X 239 n ≠ 0) → ((∃ k, 0 ≤ k ∧ k < (n : Int) ∧ mRowIn X s k ∧ X 239 k ≠ 0 ∧ ∃ q, 0 ≤ q ∧ q < 24 ∧ X 206 q = k.tdiv 64 ∧ q.tdiv 4 = t') ↔ ∃ k, 0 ≤ k ∧ k < ((n + 1 : Nat) : Int) ∧ mRowIn X s k ∧ X 239 k ≠ 0 ∧ ∃ q, 0 ≤ q ∧ q < 24 ∧ X 206 q = k.tdiv 64 ∧ q.tdiv 4 = t') := fun t' z => ⟨fun ⟨k, a, b, c⟩ => ⟨k, a, by omega, c⟩, fun ⟨k, a, b, c, d⟩ => by
      by_cases e : k = (n : Int)
      · subst e; exact absurd ⟨c, d.1⟩ z
      · exact ⟨k, a, by omega, c, d⟩⟩
    have fr1 : ∀ o k, ¬ wdX o k → mWd i s (n + 1) X o k = X o k := fun o k h => (mWd1_fr o k h).trans (fr o k h)
    show (∀ o k, ¬ wdX o k → mWd i s (n + 1) X o k = X o k) ∧ _
    by_cases hr : mRowIn X s n
    · by_cases hg : X 239 n = 0
      · by_cases hb : mRefers X s ((n : Int).tdiv 64) ((n : Int).tmod 64) 2
        · have eW : mWd i s (n + 1) X = mwants (up2 (mWd i s n X) 240 n 1) ((n : Int).tdiv 64) (X 215 (mrow s ((n : Int).tdiv 64) ((n : Int).tmod 64))) := (mWd1_b (eR.mpr hr) (e239.trans hg) (eF.mpr hb)).trans (by rw [eK])
          have hL : wdL X s (n + 1) = wdL X s n ++ [wdK X s n] := wdL_y ⟨hr, Or.inr hb⟩
          have h0 : up2 (mWd i s n X) 240 (n : Int) 1 100 41 = (wdL X s n).length := (up2_o _ _ _ _ (by decide)).trans e41
          refine ⟨fr1, ?_, ?_, fun k k0 k1 => ?_, (mr.eq (fun o h1 h2 => ?_)).iff (fun t' _ _ => noW t' (fun z => z.2 hg)) (fun _ _ => Iff.rfl) (by decide)⟩
          · rw [eW, mwants_41, h0, hL, List.length_append]; simp
          · rw [eW, hL, List.length_append]
            show wtL _ ((wdL X s n).length + 1) = _
            rw [wtL_wants h0, wtL_of (W := mWd i s n X) (fun j _ => ⟨up2_o _ _ _ _ (by decide), up2_o _ _ _ _ (by decide)⟩), eL]
            rfl
          · rw [eW, mwants_fr 240 k (by decide) (by decide) (Or.inl (by decide))]
            by_cases e : k = (n : Int)
            · subst e
              rw [up2_eq]
              exact ⟨fun _ => ⟨by omega, hr, hg, hb⟩, fun _ => by decide⟩
            · rw [up2_k _ _ _ _ e, e240 k k0 k1]
              exact ⟨fun z => ⟨by omega, z.2⟩, fun z => ⟨by omega, z.2⟩⟩
          · rw [eW]
            exact funext (fun k => (mwants_fr o k (by omega) (by omega) (Or.inl (by omega))).trans (up2_o _ _ _ _ (by omega)))
        · have eW : mWd i s (n + 1) X = up2 (mWd i s n X) 240 n 0 := mWd1_n (eR.mpr hr) (e239.trans hg) (fun z => hb (eF.mp z))
          have hL : wdL X s (n + 1) = wdL X s n := wdL_n (fun z => z.2.elim (fun q => q hg) hb)
          refine ⟨fr1, ?_, ?_, fun k k0 k1 => ?_, (mr.eq (fun o h1 h2 => ?_)).iff (fun t' _ _ => noW t' (fun z => z.2 hg)) (fun _ _ => Iff.rfl) (by decide)⟩
          · rw [eW, hL, up2_o _ _ _ _ (by decide)]; exact e41
          · rw [eW, hL, wtL_of (W := mWd i s n X) (fun j _ => ⟨up2_o _ _ _ _ (by decide), up2_o _ _ _ _ (by decide)⟩), eL]
          · rw [eW]
            by_cases e : k = (n : Int)
            · subst e
              rw [up2_eq]
              exact ⟨fun z => absurd rfl z, fun z => absurd z.2.2.2 hb⟩
            · rw [up2_k _ _ _ _ e, e240 k k0 k1]
              exact ⟨fun z => ⟨by omega, z.2⟩, fun z => ⟨by omega, z.2⟩⟩
          · rw [eW]
            exact funext (fun k => up2_o _ _ _ _ (by omega))
      · have eW : mWd i s (n + 1) X = mwants (mReadsRefs (mWd i s n X) i ((n : Int).tdiv 64) 24) ((n : Int).tdiv 64) (X 215 (mrow s ((n : Int).tdiv 64) ((n : Int).tmod 64))) := (mWd1_g (eR.mpr hr) (fun z => hg (e239.symm.trans z))).trans (by rw [eK])
        have hL : wdL X s (n + 1) = wdL X s n ++ [wdK X s n] := wdL_y ⟨hr, Or.inl hg⟩
        have h0 : mReadsRefs (mWd i s n X) i ((n : Int).tdiv 64) 24 100 41 = (wdL X s n).length := (mReadsRefs_fr 100 41 (by decide)).trans e41
        have m2 := mr.tr (MrD.refs (S := mWd i s n X) (i := i) (t := (n : Int).tdiv 64) hi) (fun _ _ z => z.elim)
        refine ⟨fr1, ?_, ?_, fun k k0 k1 => ?_, (m2.eq (fun o h1 h2 => ?_)).iff (fun t' _ _ => ?_) (fun _ _ => ⟨fun z => z.elim id id, False.elim⟩) (by decide)⟩
        · rw [eW, mwants_41, h0, hL, List.length_append]; simp
        · rw [eW, hL, List.length_append]
          show wtL _ ((wdL X s n).length + 1) = _
          rw [wtL_wants h0, wtL_of (W := mWd i s n X) (fun j _ => ⟨mReadsRefs_fr _ _ (by decide), mReadsRefs_fr _ _ (by decide)⟩), eL]
          rfl
        · rw [eW, mwants_fr 240 k (by decide) (by decide) (Or.inl (by decide)), mReadsRefs_fr 240 k (by decide), e240 k k0 k1]
          exact ⟨fun z => ⟨by omega, z.2⟩, fun z => ⟨by
            by_cases e : k = (n : Int)
            · subst e; exact absurd z.2.2.1 hg
            · omega, z.2⟩⟩
        · rw [eW]
          exact funext (fun k => mwants_fr o k (by omega) (by omega) (Or.inl (by omega)))
        · rw [fX 206 (by decide) (by decide) (by decide) (by decide) (by decide)]
          constructor
          · rintro (⟨k, a, b, c⟩ | ⟨q, a, b, c, d⟩)
            · exact ⟨k, a, by omega, c⟩
            · exact ⟨n, by omega, by omega, hr, hg, q, a, b, c, d⟩
          · rintro ⟨k, a, b, c, d, q, q0, q1, q2, q3⟩
            by_cases e : k = (n : Int)
            · subst e; exact Or.inr ⟨q, q0, q1, q2, q3⟩
            · exact Or.inl ⟨k, a, by omega, c, d, q, q0, q1, q2, q3⟩
    · have eW : mWd i s (n + 1) X = mWd i s n X := mWd1_o (fun z => hr (eR.mp z))
      have hL : wdL X s (n + 1) = wdL X s n := wdL_n (fun z => hr z.1)
      refine ⟨fr1, ?_, ?_, fun k k0 k1 => ?_, (mr.eq (fun o h1 h2 => by rw [eW])).iff (fun t' _ _ => noW t' (fun z => hr z.1)) (fun _ _ => Iff.rfl) (by decide)⟩
      · rw [eW, hL]; exact e41
      · rw [eW, hL]; exact eL
      · rw [eW, e240 k k0 k1]
        exact ⟨fun z => ⟨by omega, z.2⟩, fun z => ⟨by
          by_cases e : k = (n : Int)
          · subst e; exact absurd z.2.1 hr
          · omega, z.2⟩⟩
end
