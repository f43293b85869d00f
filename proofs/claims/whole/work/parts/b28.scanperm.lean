/-! a table scanned by class and by reference; rising rows -/
section
variable {I S : IT} {a : Nat} {s t y : Int} {w : Nat}
theorem mem_scanC {s' v : Nat} {x : List Int} : ∀ n : Nat, x ∈ scanC I s' v a y t w n ↔ ∃ k : Nat, k < n ∧ scPl I s' v a y t k ∧ x = rowAt I a ((t * 8 + (k : Int)) * 4) w := by
  intro n
  induction n with
  | zero => exact ⟨fun h => (by cases h), fun ⟨k, hk, _⟩ => by omega⟩
  | succ n ih =>
    by_cases h : scPl I s' v a y t n
    · rw [scanC_yes h, List.mem_append, ih]
      constructor
      · rintro (⟨k, h1, h2⟩ | q)
        · exact ⟨k, by omega, h2⟩
        · have : x = rowAt I a ((t * 8 + (n : Int)) * 4) w := by first | exact List.mem_singleton.mp q | simpa using q
          exact ⟨n, by omega, h, this⟩
      · rintro ⟨k, h1, h2, h3⟩
        by_cases e : k = n
        · rw [h3, e]; exact Or.inr List.mem_cons_self
        · exact Or.inl ⟨k, by omega, h2, h3⟩
    · rw [scanC_no h, ih]
      constructor
      · rintro ⟨k, h1, h2⟩; exact ⟨k, by omega, h2⟩
      · rintro ⟨k, h1, h2, h3⟩
        have : k ≠ n := fun e => h (e ▸ h2)
        exact ⟨k, by omega, h2, h3⟩
theorem mem_scanK {x : List Int} : ∀ n : Nat, x ∈ scanK S s y t w n ↔ ∃ k : Nat, k < n ∧ mSeen S y s t k ∧ x = rowAt S 215 (mrow s t k) w := by
  intro n
  induction n with
  | zero => exact ⟨fun h => (by cases h), fun ⟨k, hk, _⟩ => by omega⟩
  | succ n ih =>
    by_cases h : mSeen S y s t n
    · rw [scanK_yes h, List.mem_append, ih]
      constructor
      · rintro (⟨k, h1, h2⟩ | q)
        · exact ⟨k, by omega, h2⟩
        · have : x = rowAt S 215 (mrow s t n) w := by first | exact List.mem_singleton.mp q | simpa using q
          exact ⟨n, by omega, h, this⟩
      · rintro ⟨k, h1, h2, h3⟩
        by_cases e : k = n
        · rw [h3, e]; exact Or.inr List.mem_cons_self
        · exact Or.inl ⟨k, by omega, h2, h3⟩
    · rw [scanK_no h, ih]
      constructor
      · rintro ⟨k, h1, h2⟩; exact ⟨k, by omega, h2⟩
      · rintro ⟨k, h1, h2, h3⟩
        have : k ≠ n := fun e => h (e ▸ h2)
        exact ⟨k, by omega, h2, h3⟩
theorem nodup_snoc {L : List (List Int)} {x : List Int} (h : L.Nodup) (hx : x ∉ L) : (L ++ [x]).Nodup := by
  refine List.nodup_append.mpr ⟨h, by simp, fun u hu b hb => ?_⟩
  have : b = x := by first | exact List.mem_singleton.mp hb | simpa using hb
  intro e2
  exact hx (by rw [← this, ← e2]; exact hu)
theorem key_of {T : IT} {d : Nat} {b b' : Int} (hw : 1 ≤ w) (h : rowAt T d b w = rowAt T d b' w) : T d b = T d b' := by
  have e := congrArg (fun r => nth r 0) h
  have e2 : nth (rowAt T d b w) 0 = nth (rowAt T d b' w) 0 := e
  rw [nth_rowAt (by omega) (by omega), nth_rowAt (by omega) (by omega), Int.add_zero, Int.add_zero] at e2
  exact e2
theorem scanC_nodup {s' v : Nat} (hW : RWc I a) (ht : 0 ≤ t ∧ t < 6) (hw : 1 ≤ w) : ∀ n : Nat, n ≤ 8 → (scanC I s' v a y t w n).Nodup := by
  intro n
  induction n with
  | zero => intro _; exact List.nodup_nil
  | succ n ih =>
    intro hn
    by_cases h : scPl I s' v a y t n
    · rw [scanC_yes h]
      refine nodup_snoc (ih (by omega)) (fun z => ?_)
      obtain ⟨k, h1, h2, h3⟩ := (mem_scanC n).mp z
      have e := key_of hw h3
      have := hW.1 t _ _ ht.1 ht.2 (by omega) (by omega) (by omega) (by omega) h.1 e
      omega
    · rw [scanC_no h]; exact ih (by omega)
theorem scanK_nodup (hW : RWm S s) (ht : 0 ≤ t ∧ t < 6) (hw : 1 ≤ w) : ∀ n : Nat, (n : Int) ≤ S 214 (6 * s + t) → (scanK S s y t w n).Nodup := by
  intro n
  induction n with
  | zero => intro _; exact List.nodup_nil
  | succ n ih =>
    intro hn
    by_cases h : mSeen S y s t n
    · rw [scanK_yes h]
      refine nodup_snoc (ih (by omega)) (fun z => ?_)
      obtain ⟨k, h1, h2, h3⟩ := (mem_scanK n).mp z
      have e := key_of hw h3
      have := hW.2.1 t _ _ ht.1 ht.2 (by omega) (by omega) (by omega) (by omega) e
      omega
    · rw [scanK_no h]; exact ih (by omega)
theorem row_q4 {T T' : IT} {d d' : Nat} {b b' : Int} (hw : w ≤ 4) (h : q4 (T d) b = q4 (T' d') b') : rowAt T d b w = rowAt T' d' b' w := by
  refine rowAt_congr (fun c c0 c1 => ?_)
  have e := congrArg (fun ρ => g4 ρ c) h
  have e2 : g4 (q4 (T d) b) c = g4 (q4 (T' d') b') c := e
  rw [g4_q ⟨c0, by omega⟩, g4_q ⟨c0, by omega⟩] at e2
  exact e2
theorem scan_perm (hR : RSch I S) (hs : SSch S) (hE : RowEq I a S s) (hW : RWc I a) (hm : RWm S s) (ht : 0 ≤ t ∧ t < 6) (hw : 1 ≤ w ∧ w ≤ 4) : (scanC I 1032 1040 a y t w 8).Perm (scanK S s y t w (S 214 (6 * s + t)).toNat) := by
  have h8 := hm.1 t ht.1 ht.2
  refine (List.perm_ext_iff_of_nodup (scanC_nodup hW ht hw.1 8 (Nat.le_refl _)) (scanK_nodup hm ht hw.1 _ (by omega))).mpr (fun x => (mem_scanC 8).trans (Iff.trans ?_ (mem_scanK _).symm))
  constructor
  · rintro ⟨k, h1, ⟨h2, h3⟩, h4⟩
    obtain ⟨r, r0, r1, e⟩ := (hE t _ ht.1 ht.2).mp ⟨t * 8 + (k : Int), by omega, by omega, h2, rfl⟩
    have e0 : ((r.toNat : Nat) : Int) = r := by omega
    refine ⟨r.toNat, by omega, ?_, ?_⟩
    · rw [mseen_eq hs, e0, ← e]; exact (see_eq hR hs).mp h3
    · rw [h4, e0]; exact row_q4 hw.2 e
  · rintro ⟨k, h1, h2, h3⟩
    obtain ⟨p, p0, p1, p2, e⟩ := (hE t _ ht.1 ht.2).mpr ⟨(k : Int), by omega, by omega, rfl⟩
    have e0 : t * 8 + (((p - t * 8).toNat : Nat) : Int) = p := by omega
    refine ⟨(p - t * 8).toNat, by omega, ⟨by rw [e0]; exact p2, ?_⟩, ?_⟩
    · rw [e0, see_eq hR hs, ← e]; exact (mseen_eq hs).mp h2
    · rw [h3, e0]; exact row_q4 hw.2 e
theorem scanK_w (hm : RWm S s) (ht : 0 ≤ t ∧ t < 6) (hw : w ≤ 4) : ∀ n : Nat, (n : Int) ≤ S 214 (6 * s + t) → tw (scanK S s y t w n) ≤ 1000 * n := by
  intro n
  induction n with
  | zero => intro _; exact Int.le_refl _
  | succ n ih =>
    intro hn
    have a := ih (by omega)
    by_cases h : mSeen S y s t n
    · rw [scanK_yes h, tw_app]
      have r : rm (rowAt S 215 (mrow s t n) w) ≤ 1000 := by
        refine rm_le (by omega) (fun v hv => ?_)
        unfold rowAt at hv
        obtain ⟨c, hc, e⟩ := List.mem_map.mp hv
        have hc := List.mem_range.mp hc
        have := (hm.2.2 t n ht.1 ht.2 (by omega) (by omega)).2 c (by omega) (by omega)
        rw [← e]
        show av (S 215 (mrow s t n + (c : Int))) ≤ 1000
        rcases this with q | q
        · rw [q, av_null]; omega
        · unfold av; split
          · omega
          · split <;> omega
      have : tw [rowAt S 215 (mrow s t n) w] = rm (rowAt S 215 (mrow s t n) w) + 0 := rfl
      omega
    · rw [scanK_no h]; omega
/-- rising rows of the same rows are the same -/
theorem ris_one {M N : List (List Int)} {w : Nat} (h : M.Perm N) (hM : Ris M) (hN : Ris N) (hl : ∀ r ∈ M, r.length = w) : M = N := by
  refine List.Perm.eq_of_pairwise (fun x z hx hz h1 h2 => ?_) hM hN h
  have e : x.length = z.length := (hl x hx).trans (hl z (h.mem_iff.mpr hz)).symm
  rcases rlt_tri x z e with q | q | q
  · exact absurd q h2
  · exact q
  · exact absurd q h1
end
